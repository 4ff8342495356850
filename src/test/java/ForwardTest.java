/** Promise 14: forward. */
public final class ForwardTest {
    public static void main(String[] args) {
        refusals();
        onlyFromInToOut();
        refusedKeepsWhatWasTold();
        inAndOutAreThings();
        Check.end();
    }

    private static void refusals() {
        WaySearch x = new WaySearch();
        x.tank(false);
        x.tank(false);
        int pump = x.pump();
        int valve = x.valve();
        int pump2 = x.pump();
        x.pipe(0, pump, 1);
        x.pipe(1, pump, 1);
        x.pipe(valve, 0, 1);
        x.pipe(valve, 1, 1);
        x.pipe(valve, pump2, 1);
        Check.due("told", x.forward(pump, 0, 1), true);
        Check.due("told again", x.forward(pump, 0, 1), true);
        Check.due("turned", x.forward(pump, 1, 0), true);
        Check.due("a valve", x.forward(valve, 0, 1), false);
        Check.due("a tank", x.forward(0, pump, valve), false);
        Check.due("no thing", x.forward(5, 0, 1), false);
        Check.due("below zero", x.forward(-1, 0, 1), false);
        Check.due("greatest", x.forward(Integer.MAX_VALUE, 0, 1), false);
        Check.due("least", x.forward(Integer.MIN_VALUE, 0, 1), false);
        Check.due("both one", x.forward(pump, 0, 0), false);
        Check.due("IN not joined", x.forward(pump, valve, 1), false);
        Check.due("OUT not joined", x.forward(pump, 0, valve), false);
        Check.due("IN itself", x.forward(pump, pump, 1), false);
        Check.due("OUT itself", x.forward(pump, 0, pump), false);
        Check.due("IN none", x.forward(pump, 9, 1), false);
        Check.due("OUT none", x.forward(pump, 0, 9), false);
        Check.due("IN below zero", x.forward(pump, -1, 1), false);
        Check.due("OUT below zero", x.forward(pump, 0, -1), false);
        Check.due("one pipe alone", x.forward(pump2, valve, 0), false);
    }

    private static void onlyFromInToOut() {
        WaySearch x = new WaySearch();
        x.tank(false);
        x.tank(false);
        int pump = x.pump();
        int valve = x.valve();
        x.pipe(0, pump, 1);
        x.pipe(pump, 1, 1);
        x.pipe(pump, valve, 1);
        x.pipe(valve, 1, 1);
        Check.due("not told", x.way(0, 1), WaySearch.NONE);
        x.forward(pump, 0, 1);
        Check.due("from IN to OUT", x.way(0, 1), 0);
        Check.duePipes(x, 0, 0, 1);
        Check.due("from OUT to IN", x.way(1, 0), WaySearch.NONE);
        x.forward(pump, 0, valve);
        Check.due("to another OUT", x.way(0, 1), 1);
        Check.duePipes(x, 1, 0, 2, 3);
        x.forward(pump, valve, 0);
        Check.due("turned", x.way(0, 1), WaySearch.NONE);
        Check.due("turned: back", x.way(1, 0), 2);
        Check.duePipes(x, 2, 3, 2, 0);
        Check.duePipes(x, 1, 0, 2, 3);
    }

    private static void refusedKeepsWhatWasTold() {
        WaySearch x = new WaySearch();
        x.tank(false);
        x.tank(false);
        int pump = x.pump();
        x.valve();
        x.pipe(0, pump, 1);
        x.pipe(pump, 1, 1);
        x.forward(pump, 0, 1);
        Check.due("refused", x.forward(pump, 1, 3), false);
        Check.due("refused", x.forward(pump, 1, 1), false);
        Check.due("as before", x.way(0, 1), 0);
        Check.due("as before: back", x.way(1, 0), WaySearch.NONE);
    }

    private static void inAndOutAreThings() {
        WaySearch x = new WaySearch();
        x.tank(false);
        x.tank(false);
        int pump = x.pump();
        x.pipe(0, pump, 5);
        x.pipe(pump, 1, 5);
        x.forward(pump, 0, 1);
        x.pipe(pump, 0, 2);
        x.pipe(1, pump, 3);
        Check.due("every pipe to IN and OUT will do", x.way(0, 1), 0);
        Check.duePipes(x, 0, 2, 3);
        Check.due("rest", x.rest(0), 5);
        int next = x.pump();
        int end = x.tank(false);
        x.pipe(pump, next, 1);
        x.pipe(next, end, 1);
        x.forward(next, pump, end);
        Check.due("the first pump's OUT is another one", x.way(0, end), WaySearch.NONE);
        x.forward(pump, 0, next);
        Check.due("pump behind pump", x.way(0, end), 1);
        Check.duePipes(x, 1, 2, 4, 5);
        Check.dueValves(x, 1);
    }
}
