/** Promises 8 to 11: way, pipeOf, valveOf, rest. */
public final class WayTest {
    public static void main(String[] args) {
        refusals();
        fewestLitresFirst();
        thenFewestValves();
        thenLeastPipeWhereRowsDiffer();
        noTankBetween();
        keptAsTheyAre();
        numbersOfAWay();
        longest();
        full();
        Check.end();
    }

    private static WaySearch tanks(int many) {
        WaySearch x = new WaySearch();
        for (int i = 0; i < many; i++) {
            x.tank(false);
        }
        return x;
    }

    private static void refusals() {
        WaySearch x = tanks(2);
        int empty = x.tank(true);
        int valve = x.valve();
        int pump = x.pump();
        x.pipe(0, empty, 1);
        int[] noTanks = {valve, pump, 5, -1, 48, Integer.MAX_VALUE, Integer.MIN_VALUE};
        for (int thing : noTanks) {
            Check.due("from " + thing, x.way(thing, 0), WaySearch.WRONG);
            Check.due("to " + thing, x.way(0, thing), WaySearch.WRONG);
            Check.due("to itself " + thing, x.way(thing, thing), WaySearch.WRONG);
            Check.due("from the empty one to " + thing, x.way(empty, thing), WaySearch.WRONG);
        }
        Check.due("to itself", x.way(0, 0), WaySearch.SAME);
        Check.due("the empty one to itself", x.way(empty, empty), WaySearch.SAME);
        Check.due("from the empty one", x.way(empty, 0), WaySearch.EMPTY);
        Check.due("from the empty one, no way", x.way(empty, 1), WaySearch.EMPTY);
        Check.due("no way", x.way(0, 1), WaySearch.NONE);
        Check.due("none is kept", x.told(2), 0);
        Check.due("to the empty one", x.way(0, empty), 0);
    }

    private static void fewestLitresFirst() {
        WaySearch x = tanks(2);
        x.pipe(0, 1, 100);
        int last = 0;
        for (int i = 0; i < 30; i++) {
            int valve = x.valve();
            x.pipe(last, valve, 3);
            last = valve;
        }
        x.pipe(last, 1, 3);
        Check.due("many valves, fewer litres", x.way(0, 1), 0);
        Check.due("rest", x.rest(0), 93);
        Check.due("last valve", x.valveOf(0, 29), 31);
        x.pipe(0, 1, 93);
        Check.due("as many litres, no valve", x.way(0, 1), 1);
        Check.duePipes(x, 1, 32);
    }

    private static void thenFewestValves() {
        WaySearch x = tanks(2);
        int a = x.valve();
        int b = x.valve();
        int p = x.pump();
        int q = x.pump();
        x.pipe(0, a, 2);
        x.pipe(a, b, 2);
        x.pipe(b, 1, 2);
        x.pipe(a, 1, 4);
        x.pipe(0, p, 2);
        x.pipe(p, q, 2);
        x.pipe(q, 1, 2);
        Check.due("one valve, not two", x.way(0, 1), 0);
        Check.duePipes(x, 0, 0, 3);
        Check.dueValves(x, 0, a);
        x.forward(p, 0, q);
        x.forward(q, p, 1);
        Check.due("pumps are no valves", x.way(0, 1), 1);
        Check.duePipes(x, 1, 4, 5, 6);
        Check.dueValves(x, 1);
        x.bar(q, true);
        x.bar(b, true);
        Check.due("back", x.way(1, 0), 2);
        Check.duePipes(x, 2, 3, 0);
    }

    private static void thenLeastPipeWhereRowsDiffer() {
        WaySearch x = tanks(2);
        int a = x.valve();
        int b = x.valve();
        x.pipe(b, 1, 1);
        x.pipe(0, a, 1);
        x.pipe(0, b, 1);
        x.pipe(a, 1, 1);
        Check.due("the first pipe decides", x.way(0, 1), 0);
        Check.duePipes(x, 0, 1, 3);
        Check.due("back, it is another one", x.way(1, 0), 1);
        Check.duePipes(x, 1, 0, 2);
        WaySearch y = tanks(2);
        int c = y.valve();
        y.pipe(0, c, 1);
        y.pipe(1, c, 1);
        y.pipe(c, 1, 1);
        y.pipe(0, c, 1);
        Check.due("pipes beside pipes", y.way(0, 1), 0);
        Check.duePipes(y, 0, 0, 1);
        y.pipe(0, c, 1);
        y.other(0, 0);
        Check.duePipes(y, 1, 3, 1);
    }

    private static void noTankBetween() {
        WaySearch x = tanks(3);
        int valve = x.valve();
        x.pipe(0, 2, 1);
        x.pipe(2, 1, 1);
        Check.due("over a tank alone", x.way(0, 1), WaySearch.NONE);
        x.pipe(0, valve, 50);
        x.pipe(valve, 1, 50);
        Check.due("over a valve", x.way(0, 1), 0);
        Check.due("rest", x.rest(0), 100);
        Check.due("to the tank between", x.way(0, 2), 1);
        Check.duePipes(x, 1, 0);
    }

    private static void keptAsTheyAre() {
        WaySearch x = tanks(2);
        int pump = x.pump();
        int valve = x.valve();
        x.pipe(0, pump, 1);
        x.pipe(pump, valve, 2);
        x.pipe(valve, 1, 3);
        x.forward(pump, 0, valve);
        x.way(0, 1);
        x.pipe(0, 1, 1);
        x.forward(pump, valve, 0);
        x.bar(valve, true);
        x.bar(0, true);
        x.run(1, true);
        Check.duePipes(x, 0, 0, 1, 2);
        Check.dueValves(x, 0, valve);
        Check.dueBlown(x, 0, 2, 1);
        Check.due("rest", x.rest(0), 6);
        x.bar(0, false);
        Check.due("the same ends again", x.way(0, 1), 1);
        Check.duePipes(x, 1, 3);
        Check.duePipes(x, 0, 0, 1, 2);
    }

    private static void numbersOfAWay() {
        WaySearch x = tanks(2);
        int a = x.valve();
        int p = x.pump();
        int b = x.valve();
        x.pipe(b, 1, 1);
        x.pipe(p, b, 10);
        x.pipe(a, p, 100);
        x.pipe(0, a, 1000);
        x.forward(p, a, b);
        x.way(0, 1);
        Check.duePipes(x, 0, 3, 2, 1, 0);
        Check.dueValves(x, 0, a, b);
        Check.due("rest", x.rest(0), 1111);
        int[] noNumbers = {-1, -2, Integer.MIN_VALUE, 4, 48, Integer.MAX_VALUE};
        for (int k : noNumbers) {
            Check.due("pipeOf(0, " + k + ")", x.pipeOf(0, k), WaySearch.NONE);
            Check.due("valveOf(0, " + k + ")", x.valveOf(0, k), WaySearch.NONE);
        }
        int[] noWays = {-1, 1, 63, 64, Integer.MIN_VALUE, Integer.MAX_VALUE};
        for (int way : noWays) {
            Check.due("rest(" + way + ")", x.rest(way), WaySearch.WRONG);
            Check.due("pipeOf(" + way + ", 0)", x.pipeOf(way, 0), WaySearch.WRONG);
            Check.due("pipeOf(" + way + ", -1)", x.pipeOf(way, -1), WaySearch.WRONG);
            Check.due("valveOf(" + way + ", 0)", x.valveOf(way, 0), WaySearch.WRONG);
            Check.due("valveOf(" + way + ", -1)", x.valveOf(way, -1), WaySearch.WRONG);
        }
    }

    private static void longest() {
        WaySearch x = tanks(2);
        int last = 0;
        for (int i = 0; i < 46; i++) {
            int valve = x.valve();
            x.pipe(last, valve, 1_000_000_000L);
            last = valve;
        }
        x.pipe(last, 1, 1_000_000_000L);
        Check.due("over all things", x.way(0, 1), 0);
        Check.due("rest", x.rest(0), 47_000_000_000L);
        Check.due("last pipe", x.pipeOf(0, 46), 46);
        Check.due("none behind it", x.pipeOf(0, 47), WaySearch.NONE);
        Check.due("last valve", x.valveOf(0, 45), 47);
        Check.due("none behind it", x.valveOf(0, 46), WaySearch.NONE);
        Check.due("last flushed", x.blow(0, 46), 0);
        Check.due("none behind it", x.blow(0, 47), WaySearch.NONE);
        Check.due("back", x.way(1, 0), 1);
        Check.due("back: first pipe", x.pipeOf(1, 0), 46);
        Check.due("back: last pipe", x.pipeOf(1, 46), 0);
        Check.due("back: rest", x.rest(1), 47_000_000_000L);
    }

    private static void full() {
        WaySearch x = tanks(3);
        int empty = x.tank(true);
        x.pipe(0, 1, 1);
        x.pipe(0, 1, 2);
        for (int i = 0; i < 64; i++) {
            Check.due("way " + i, x.way(0, 1), i);
        }
        Check.due("65th", x.way(0, 1), WaySearch.FULL);
        Check.due("65th, back", x.way(1, 0), WaySearch.FULL);
        Check.due("full, no tank", x.way(0, 9), WaySearch.WRONG);
        Check.due("full, to itself", x.way(0, 0), WaySearch.SAME);
        Check.due("full, empty", x.way(empty, 0), WaySearch.EMPTY);
        Check.due("full, no way", x.way(0, 2), WaySearch.NONE);
        Check.due("full, other", x.other(63, 0), WaySearch.FULL);
        Check.due("full, other without such a pipe", x.other(63, 1), WaySearch.NONE);
        Check.due("full, other of none", x.other(64, 0), WaySearch.WRONG);
        x.run(1, true);
        Check.due("full, no other", x.other(63, 0), WaySearch.NONE);
        Check.due("ways", x.told(2), 64);
        Check.duePipes(x, 63, 0);
        Check.due("none behind it", x.rest(64), WaySearch.WRONG);
    }
}
