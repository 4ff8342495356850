/** Promise 12: other. */
public final class OtherTest {
    public static void main(String[] args) {
        withoutOnePipe();
        asItIsNow();
        refusals();
        Check.end();
    }

    private static WaySearch diamond() {
        WaySearch x = new WaySearch();
        x.tank(false);
        x.tank(false);
        x.valve();
        x.valve();
        x.pipe(0, 2, 1);
        x.pipe(2, 1, 1);
        x.pipe(0, 3, 2);
        x.pipe(3, 1, 2);
        x.pipe(2, 3, 1);
        return x;
    }

    private static void withoutOnePipe() {
        WaySearch x = diamond();
        x.way(0, 1);
        Check.duePipes(x, 0, 0, 1);
        Check.due("without the first pipe", x.other(0, 0), 1);
        Check.duePipes(x, 1, 2, 3);
        Check.due("without the second pipe", x.other(0, 1), 2);
        Check.duePipes(x, 2, 2, 3);
        Check.due("the pipe is shut for one call alone", x.way(0, 1), 3);
        Check.duePipes(x, 3, 0, 1);
        Check.due("other of another way", x.other(1, 0), 4);
        Check.duePipes(x, 4, 0, 1);
        x.way(1, 0);
        Check.duePipes(x, 5, 1, 0);
        Check.due("the ends keep their order", x.other(5, 1), 6);
        Check.duePipes(x, 6, 3, 2);
        x.pipe(1, 2, 3);
        Check.due("the same things over another pipe", x.other(0, 1), 7);
        Check.duePipes(x, 7, 0, 5);
        Check.due("rest", x.rest(7), 4);
        WaySearch y = diamond();
        y.way(0, 1);
        y.bar(3, true);
        y.pipe(2, 1, 7);
        Check.due("only the pipe is left out", y.other(0, 1), 1);
        Check.duePipes(y, 1, 0, 5);
    }

    private static void asItIsNow() {
        WaySearch x = diamond();
        x.way(0, 1);
        x.bar(3, true);
        Check.due("the other one is barred", x.other(0, 0), WaySearch.NONE);
        x.bar(3, false);
        x.run(4, true);
        Check.due("both valves at a running pipe", x.other(0, 0), WaySearch.NONE);
        x.run(4, false);
        x.bar(0, true);
        Check.due("an end is barred", x.other(0, 0), WaySearch.NONE);
        x.bar(0, false);
        x.pipe(0, 1, 3);
        Check.due("a new pipe is less", x.other(0, 0), 1);
        Check.duePipes(x, 1, 5);
        int pump = x.pump();
        x.pipe(0, pump, 1);
        x.pipe(pump, 1, 1);
        x.forward(pump, 0, 1);
        Check.due("a new pump is less", x.other(0, 0), 2);
        Check.duePipes(x, 2, 6, 7);
        x.forward(pump, 1, 0);
        Check.due("it is turned, and the way is kept", x.other(2, 0), 3);
        Check.duePipes(x, 3, 0, 1);
    }

    private static void refusals() {
        WaySearch x = diamond();
        x.way(0, 1);
        int[] noWays = {1, -1, 64, Integer.MAX_VALUE, Integer.MIN_VALUE};
        for (int way : noWays) {
            Check.due("other(" + way + ", 0)", x.other(way, 0), WaySearch.WRONG);
            Check.due("other(" + way + ", -1)", x.other(way, -1), WaySearch.WRONG);
        }
        int[] noPipes = {2, -1, 4, 96, Integer.MAX_VALUE, Integer.MIN_VALUE};
        for (int k : noPipes) {
            Check.due("other(0, " + k + ")", x.other(0, k), WaySearch.NONE);
        }
        Check.due("none is kept", x.told(2), 1);
    }
}
