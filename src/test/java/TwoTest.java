/** Promise 13: two. */
public final class TwoTest {
    private static final int EMPTY_TANK = 4;
    private static final int VALVE = 5;

    public static void main(String[] args) {
        refusals();
        theFirstIsLeastOfAll();
        nothingInCommon();
        pumpInCommon();
        tanksMayBeInCommon();
        noneKeepsNothing();
        full();
        Check.end();
    }

    /** Four tanks that give, an empty one and a valve, with a pipe from 0 to 1 and one from 2 to 3. */
    private static WaySearch twoStraightWays() {
        WaySearch x = new WaySearch();
        for (int i = 0; i < 4; i++) {
            x.tank(false);
        }
        x.tank(true);
        x.valve();
        x.pipe(0, 1, 1);
        x.pipe(2, 3, 2);
        return x;
    }

    private static void refusals() {
        WaySearch x = twoStraightWays();
        int[] noTanks = {VALVE, 6, -1, 48, Integer.MAX_VALUE, Integer.MIN_VALUE};
        for (int thing : noTanks) {
            Check.due("a is " + thing, x.two(thing, 1, 2, 3), WaySearch.WRONG);
            Check.due("b is " + thing, x.two(0, thing, 2, 3), WaySearch.WRONG);
            Check.due("c is " + thing, x.two(0, 1, thing, 3), WaySearch.WRONG);
            Check.due("d is " + thing, x.two(0, 1, 2, thing), WaySearch.WRONG);
            Check.due("a, b are " + thing, x.two(thing, thing, 2, 3), WaySearch.WRONG);
            Check.due("the first's SAME before", x.two(0, 0, thing, 3), WaySearch.SAME);
            Check.due("the first's EMPTY before", x.two(EMPTY_TANK, 0, 2, thing), WaySearch.EMPTY);
            Check.due("the second's WRONG before NONE", x.two(0, 3, 2, thing), WaySearch.WRONG);
        }
        Check.due("SAME of the first", x.two(1, 1, 2, 3), WaySearch.SAME);
        Check.due("SAME of the second", x.two(0, 1, 2, 2), WaySearch.SAME);
        Check.due("SAME before EMPTY", x.two(EMPTY_TANK, EMPTY_TANK, 2, 3), WaySearch.SAME);
        Check.due("SAME before EMPTY of the second", x.two(0, 1, EMPTY_TANK, EMPTY_TANK), WaySearch.SAME);
        Check.due("EMPTY of the first", x.two(EMPTY_TANK, 1, 2, 3), WaySearch.EMPTY);
        Check.due("EMPTY of the second", x.two(0, 1, EMPTY_TANK, 3), WaySearch.EMPTY);
        Check.due("EMPTY of the first before SAME of the second",
                x.two(EMPTY_TANK, 1, 2, 2), WaySearch.EMPTY);
        Check.due("SAME of the first before EMPTY of the second",
                x.two(0, 0, EMPTY_TANK, 3), WaySearch.SAME);
        Check.due("SAME of the second before NONE", x.two(0, 3, 2, 2), WaySearch.SAME);
        Check.due("EMPTY of the second before NONE", x.two(0, 3, EMPTY_TANK, 2), WaySearch.EMPTY);
        Check.due("nothing is kept", x.told(2), 0);
        Check.due("both are there", x.two(0, 1, 2, 3), 1);
        Check.duePipes(x, 0, 0);
        Check.duePipes(x, 1, 1);
        Check.due("ways", x.told(2), 2);
        Check.due("the numbers go on", x.way(2, 3), 2);
    }

    private static void theFirstIsLeastOfAll() {
        WaySearch x = new WaySearch();
        x.tank(false);
        x.tank(false);
        int a = x.valve();
        int b = x.valve();
        x.pipe(0, a, 1);
        x.pipe(a, b, 1);
        x.pipe(b, 1, 1);
        x.pipe(0, b, 5);
        x.pipe(a, 1, 5);
        Check.due("the least way takes both valves", x.two(0, 1, 0, 1), WaySearch.NONE);
        Check.due("nothing is kept", x.told(2), 0);
        x.pipe(0, 1, 100);
        Check.due("a straight pipe is left", x.two(0, 1, 0, 1), 1);
        Check.duePipes(x, 0, 0, 1, 2);
        Check.duePipes(x, 1, 5);
    }

    private static void nothingInCommon() {
        WaySearch x = new WaySearch();
        x.tank(false);
        x.tank(false);
        x.pipe(0, 1, 1);
        Check.due("one pipe for both", x.two(0, 1, 0, 1), WaySearch.NONE);
        Check.due("one pipe for both, back", x.two(0, 1, 1, 0), WaySearch.NONE);
        x.pipe(0, 1, 1);
        Check.due("a pipe beside it", x.two(0, 1, 1, 0), 1);
        Check.duePipes(x, 0, 0);
        Check.duePipes(x, 1, 1);
        WaySearch y = new WaySearch();
        y.tank(false);
        y.tank(false);
        int a = y.valve();
        y.pipe(0, a, 1);
        y.pipe(0, a, 1);
        y.pipe(a, 1, 1);
        y.pipe(a, 1, 1);
        Check.due("one valve for both", y.two(0, 1, 0, 1), WaySearch.NONE);
        y.pipe(0, 1, 9);
        Check.due("another way", y.two(0, 1, 0, 1), 1);
        Check.duePipes(y, 0, 0, 2);
        Check.duePipes(y, 1, 4);
        Check.due("shut for one call alone", y.way(0, 1), 2);
        Check.duePipes(y, 2, 0, 2);
    }

    private static void pumpInCommon() {
        WaySearch x = new WaySearch();
        x.tank(false);
        x.tank(false);
        int p = x.pump();
        x.pipe(0, p, 1);
        x.pipe(0, p, 1);
        x.pipe(p, 1, 1);
        x.pipe(p, 1, 1);
        x.forward(p, 0, 1);
        Check.due("one pump for both", x.two(0, 1, 0, 1), WaySearch.NONE);
        int q = x.pump();
        x.pipe(0, q, 4);
        x.pipe(q, 1, 4);
        x.forward(q, 0, 1);
        Check.due("a pump each", x.two(0, 1, 0, 1), 1);
        Check.duePipes(x, 0, 0, 2);
        Check.duePipes(x, 1, 4, 5);
    }

    private static void tanksMayBeInCommon() {
        WaySearch x = twoStraightWays();
        x.pipe(1, 2, 7);
        Check.due("the first one's end begins the second", x.two(0, 1, 1, 2), 1);
        Check.duePipes(x, 0, 0);
        Check.duePipes(x, 1, 2);
        Check.due("crossed ends", x.two(2, 3, 1, 2), 3);
        Check.duePipes(x, 2, 1);
        Check.duePipes(x, 3, 2);
    }

    private static void noneKeepsNothing() {
        WaySearch x = twoStraightWays();
        Check.due("no first way", x.two(0, 3, 2, 3), WaySearch.NONE);
        Check.due("no second way", x.two(0, 1, 0, 3), WaySearch.NONE);
        x.bar(2, true);
        Check.due("the second one's tank is barred", x.two(0, 1, 2, 3), WaySearch.NONE);
        Check.due("the first one's tank is barred", x.two(2, 3, 0, 1), WaySearch.NONE);
        x.bar(2, false);
        x.run(1, true);
        Check.due("the second one's pipe runs", x.two(0, 1, 2, 3), WaySearch.NONE);
        Check.due("the first one's pipe runs", x.two(2, 3, 0, 1), WaySearch.NONE);
        Check.due("nothing is kept", x.told(2), 0);
        Check.due("the next number", x.way(0, 1), 0);
    }

    private static void full() {
        WaySearch x = twoStraightWays();
        for (int i = 1; i < 63; i += 2) {
            Check.due("two", x.two(0, 1, 2, 3), i);
        }
        Check.due("62 are kept, so 2 can be", x.told(2), 62);
        x.way(0, 1);
        Check.due("one alone can be kept", x.two(0, 1, 2, 3), WaySearch.FULL);
        Check.due("nothing was kept", x.told(2), 63);
        Check.due("NONE before FULL", x.two(0, 1, 0, 3), WaySearch.NONE);
        Check.due("WRONG before FULL", x.two(0, 1, 0, 9), WaySearch.WRONG);
        Check.due("the last one", x.way(2, 3), 63);
        Check.due("none can be kept", x.two(0, 1, 2, 3), WaySearch.FULL);
        Check.due("NONE before FULL", x.two(0, 3, 2, 3), WaySearch.NONE);
        Check.due("ways", x.told(2), 64);
        WaySearch y = twoStraightWays();
        for (int i = 1; i < 64; i += 2) {
            Check.due("two", y.two(0, 1, 2, 3), i);
        }
        Check.due("64 are kept", y.told(2), 64);
    }
}
