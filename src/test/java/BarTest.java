/** Promise 7: bar. */
public final class BarTest {
    public static void main(String[] args) {
        tellsWhatIsNew();
        barredThingsAreOnNoWay();
        barAndRunAreApart();
        Check.end();
    }

    private static void tellsWhatIsNew() {
        WaySearch x = new WaySearch();
        x.tank(false);
        x.pump();
        x.valve();
        for (int thing = 0; thing < 3; thing++) {
            Check.due("free already", x.bar(thing, false), false);
            Check.due("barred now", x.bar(thing, true), true);
            Check.due("barred already", x.bar(thing, true), false);
            Check.due("barred things", x.told(3), thing + 1);
        }
        Check.due("free now", x.bar(1, false), true);
        Check.due("free again", x.bar(1, false), false);
        Check.due("barred things", x.told(3), 2);
        int[] none = {3, -1, 48, 1000, Integer.MAX_VALUE, Integer.MIN_VALUE};
        for (int thing : none) {
            Check.due("bar(" + thing + ", true)", x.bar(thing, true), false);
            Check.due("bar(" + thing + ", false)", x.bar(thing, false), false);
        }
        Check.due("barred things", x.told(3), 2);
        Check.due("a new thing is free", x.bar(x.valve(), false), false);
    }

    private static void barredThingsAreOnNoWay() {
        WaySearch x = new WaySearch();
        x.tank(false);
        x.tank(false);
        int valve = x.valve();
        int pump = x.pump();
        x.pipe(0, valve, 1);
        x.pipe(valve, pump, 1);
        x.pipe(pump, 1, 1);
        x.forward(pump, valve, 1);
        for (int thing = 0; thing < 4; thing++) {
            x.bar(thing, true);
            Check.due("thing " + thing + " is barred", x.way(0, 1), WaySearch.NONE);
            x.bar(thing, false);
            Check.due("thing " + thing + " is free", x.way(0, 1), thing);
            Check.duePipes(x, thing, 0, 1, 2);
        }
        x.bar(valve, true);
        Check.duePipes(x, 0, 0, 1, 2);
        Check.dueValves(x, 0, valve);
        Check.due("rest", x.rest(0), 3);
        Check.due("refused before it is looked for", x.way(0, 0), WaySearch.SAME);
    }

    private static void barAndRunAreApart() {
        WaySearch x = new WaySearch();
        x.tank(false);
        x.tank(false);
        int valve = x.valve();
        x.pipe(0, valve, 1);
        x.pipe(valve, 1, 1);
        x.run(0, true);
        Check.due("a thing at a running pipe is not barred", x.told(3), 0);
        Check.due("so barring it is new", x.bar(valve, true), true);
        x.run(0, false);
        Check.due("barred still", x.way(0, 1), WaySearch.NONE);
        x.run(0, true);
        x.bar(valve, false);
        Check.due("the pipe runs still", x.way(0, 1), WaySearch.NONE);
        x.run(0, false);
        Check.due("open", x.way(0, 1), 0);
    }
}
