/** Promise 16: blow. */
public final class BlowTest {
    public static void main(String[] args) {
        backToTheLastPump();
        pumpAtTheEnds();
        valvesStopNothing();
        keptAsItIs();
        refusals();
        Check.end();
    }

    private static WaySearch tanks() {
        WaySearch x = new WaySearch();
        x.tank(false);
        x.tank(false);
        return x;
    }

    private static void backToTheLastPump() {
        WaySearch x = tanks();
        int p = x.pump();
        int v = x.valve();
        int q = x.pump();
        int w = x.valve();
        x.pipe(0, p, 1);
        x.pipe(p, v, 1);
        x.pipe(v, q, 1);
        x.pipe(q, w, 1);
        x.pipe(w, 1, 1);
        x.forward(p, 0, v);
        x.forward(q, v, w);
        x.way(0, 1);
        Check.dueBlown(x, 0, 4, 3);
        for (int k = 2; k < 7; k++) {
            Check.due("blow(0, " + k + ")", x.blow(0, k), WaySearch.NONE);
        }
    }

    private static void pumpAtTheEnds() {
        WaySearch x = tanks();
        int p = x.pump();
        int v = x.valve();
        x.pipe(0, v, 1);
        x.pipe(v, p, 1);
        x.pipe(p, 1, 1);
        x.forward(p, v, 1);
        x.way(0, 1);
        Check.dueBlown(x, 0, 2);
        x.forward(p, 1, v);
        x.way(1, 0);
        Check.dueBlown(x, 1, 0, 1);
    }

    private static void valvesStopNothing() {
        WaySearch x = tanks();
        int v = x.valve();
        int w = x.valve();
        x.pipe(0, v, 1);
        x.pipe(v, w, 1);
        x.pipe(w, 1, 1);
        x.way(0, 1);
        Check.dueBlown(x, 0, 2, 1, 0);
        x.way(1, 0);
        Check.dueBlown(x, 1, 0, 1, 2);
        x.pipe(0, 1, 1);
        x.way(0, 1);
        Check.dueBlown(x, 2, 3);
    }

    private static void keptAsItIs() {
        WaySearch x = tanks();
        int v = x.valve();
        x.pipe(0, v, 1);
        x.pipe(v, 1, 1);
        x.way(0, 1);
        x.bar(v, true);
        x.run(1, true);
        Check.dueBlown(x, 0, 1, 0);
    }

    private static void refusals() {
        WaySearch x = tanks();
        x.pipe(0, 1, 1);
        x.way(0, 1);
        int[] noWays = {-1, 1, 64, Integer.MAX_VALUE, Integer.MIN_VALUE};
        for (int way : noWays) {
            Check.due("blow(" + way + ", 0)", x.blow(way, 0), WaySearch.WRONG);
            Check.due("blow(" + way + ", -1)", x.blow(way, -1), WaySearch.WRONG);
        }
        int[] noPipes = {-1, 1, 96, Integer.MAX_VALUE, Integer.MIN_VALUE};
        for (int k : noPipes) {
            Check.due("blow(0, " + k + ")", x.blow(0, k), WaySearch.NONE);
        }
    }
}
