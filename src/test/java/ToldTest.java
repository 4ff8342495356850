/** Promise 15: told. */
public final class ToldTest {
    public static void main(String[] args) {
        counts();
        looseThings();
        anotherWhat();
        Check.end();
    }

    private static void dueAll(WaySearch x, int... want) {
        for (int what = 0; what < want.length; what++) {
            Check.due("told(" + what + ")", x.told(what), want[what]);
        }
    }

    private static void counts() {
        WaySearch x = new WaySearch();
        dueAll(x, 0, 0, 0, 0, 0, 0, 0);
        x.tank(false);
        x.tank(true);
        x.tank(true);
        x.valve();
        x.pump();
        dueAll(x, 5, 0, 0, 0, 0, 2, 5);
        x.pipe(0, 3, 1);
        x.pipe(3, 1, 1);
        dueAll(x, 5, 2, 0, 0, 0, 2, 2);
        x.way(0, 1);
        x.way(0, 1);
        dueAll(x, 5, 2, 2, 0, 0, 2, 2);
        x.bar(1, true);
        x.bar(3, true);
        x.bar(4, true);
        dueAll(x, 5, 2, 2, 3, 0, 2, 2);
        x.run(1, true);
        dueAll(x, 5, 2, 2, 3, 1, 2, 2);
        x.way(0, 1);
        x.two(0, 1, 0, 1);
        x.pipe(0, 0, 1);
        dueAll(x, 5, 2, 2, 3, 1, 2, 2);
        x.bar(1, false);
        x.run(1, false);
        dueAll(x, 5, 2, 2, 2, 0, 2, 2);
    }

    private static void looseThings() {
        WaySearch x = new WaySearch();
        for (int i = 0; i < 4; i++) {
            x.valve();
        }
        x.tank(false);
        Check.due("all are loose", x.told(6), 5);
        x.pipe(1, 3, 1);
        Check.due("three are loose", x.told(6), 3);
        x.pipe(3, 1, 1);
        Check.due("a pipe beside a pipe", x.told(6), 3);
        x.pipe(3, 4, 1);
        Check.due("two are loose", x.told(6), 2);
        x.run(0, true);
        x.bar(0, true);
        Check.due("running and barring change none", x.told(6), 2);
        x.pipe(2, 0, 1);
        Check.due("none is loose", x.told(6), 0);
    }

    private static void anotherWhat() {
        WaySearch x = new WaySearch();
        x.tank(true);
        int[] others = {7, 8, -1, -2, 100, Integer.MAX_VALUE, Integer.MIN_VALUE};
        for (int what : others) {
            Check.due("told(" + what + ")", x.told(what), WaySearch.NONE);
        }
    }
}
