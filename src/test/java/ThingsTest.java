/** Promises 1 to 4: a new object, tank, pump, valve. */
public final class ThingsTest {
    public static void main(String[] args) {
        newObject();
        numberedTogether();
        apart();
        full();
        Check.end();
    }

    private static void newObject() {
        WaySearch x = new WaySearch();
        for (int what = 0; what <= 6; what++) {
            Check.due("new: told(" + what + ")", x.told(what), 0);
        }
        Check.due("new: way", x.way(0, 1), WaySearch.WRONG);
        Check.due("new: way to itself", x.way(0, 0), WaySearch.WRONG);
        Check.due("new: two", x.two(0, 1, 0, 1), WaySearch.WRONG);
        Check.due("new: pipe", x.pipe(0, 1, 1), WaySearch.WRONG);
        Check.due("new: run", x.run(0, true), false);
        Check.due("new: bar", x.bar(0, true), false);
        Check.due("new: forward", x.forward(0, 1, 2), false);
        Check.due("new: rest", x.rest(0), WaySearch.WRONG);
        Check.due("new: pipeOf", x.pipeOf(0, 0), WaySearch.WRONG);
        Check.due("new: valveOf", x.valveOf(0, 0), WaySearch.WRONG);
        Check.due("new: blow", x.blow(0, 0), WaySearch.WRONG);
        Check.due("new: other", x.other(0, 0), WaySearch.WRONG);
        Check.due("new: nothing was kept", x.told(0) + x.told(1) + x.told(2), 0);
    }

    private static void numberedTogether() {
        WaySearch x = new WaySearch();
        Check.due("first tank", x.tank(false), 0);
        Check.due("first pump", x.pump(), 1);
        Check.due("first valve", x.valve(), 2);
        Check.due("empty tank", x.tank(true), 3);
        Check.due("second valve", x.valve(), 4);
        Check.due("second pump", x.pump(), 5);
        Check.due("things", x.told(0), 6);
        Check.due("empty tanks", x.told(5), 1);
        Check.due("full tank gives", x.way(0, 3), WaySearch.NONE);
        Check.due("empty tank gives", x.way(3, 0), WaySearch.EMPTY);
        Check.due("a pump is no tank", x.way(1, 0), WaySearch.WRONG);
        Check.due("a valve is no tank", x.way(0, 2), WaySearch.WRONG);
    }

    private static void apart() {
        WaySearch one = new WaySearch();
        WaySearch another = new WaySearch();
        one.tank(true);
        one.valve();
        Check.due("objects are apart", another.tank(false), 0);
        Check.due("objects are apart: empty tanks", another.told(5), 0);
    }

    private static void full() {
        WaySearch x = new WaySearch();
        for (int i = 0; i < 16; i++) {
            Check.due("tank", x.tank(i % 2 == 0), 3 * i);
            Check.due("pump", x.pump(), 3 * i + 1);
            Check.due("valve", x.valve(), 3 * i + 2);
        }
        for (int i = 0; i < 2; i++) {
            Check.due("49th: tank", x.tank(false), WaySearch.FULL);
            Check.due("49th: empty tank", x.tank(true), WaySearch.FULL);
            Check.due("49th: pump", x.pump(), WaySearch.FULL);
            Check.due("49th: valve", x.valve(), WaySearch.FULL);
        }
        Check.due("things", x.told(0), 48);
        Check.due("empty tanks", x.told(5), 8);
        Check.due("last thing can be barred", x.bar(47, true), true);
        Check.due("none behind it", x.bar(48, true), false);
    }
}
