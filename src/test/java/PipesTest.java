/** Promises 5 and 6: pipe, run. */
public final class PipesTest {
    public static void main(String[] args) {
        numbersAndRefusals();
        orderOfRefusals();
        full();
        runTellsWhatIsNew();
        runShutsPipe();
        runShutsPumpsAndValves();
        Check.end();
    }

    private static WaySearch twoTanksAndAValve() {
        WaySearch x = new WaySearch();
        x.tank(false);
        x.tank(false);
        x.valve();
        return x;
    }

    private static void numbersAndRefusals() {
        WaySearch x = twoTanksAndAValve();
        Check.due("least litres", x.pipe(0, 2, 1), 0);
        Check.due("most litres", x.pipe(2, 1, 1_000_000_000L), 1);
        Check.due("a pipe beside a pipe", x.pipe(0, 2, 1), 2);
        Check.due("no litres", x.pipe(0, 1, 0), WaySearch.NONE);
        Check.due("less than none", x.pipe(0, 1, -1), WaySearch.NONE);
        Check.due("least long", x.pipe(0, 1, Long.MIN_VALUE), WaySearch.NONE);
        Check.due("too many litres", x.pipe(0, 1, 1_000_000_001L), WaySearch.NONE);
        Check.due("too many litres for an int", x.pipe(0, 1, (1L << 32) + 1), WaySearch.NONE);
        Check.due("greatest long", x.pipe(0, 1, Long.MAX_VALUE), WaySearch.NONE);
        Check.due("to itself", x.pipe(2, 2, 1), WaySearch.NONE);
        Check.due("from none", x.pipe(3, 0, 1), WaySearch.WRONG);
        Check.due("to none", x.pipe(0, 3, 1), WaySearch.WRONG);
        Check.due("below zero", x.pipe(-1, 0, 1), WaySearch.WRONG);
        Check.due("least int", x.pipe(0, Integer.MIN_VALUE, 1), WaySearch.WRONG);
        Check.due("greatest int", x.pipe(Integer.MAX_VALUE, 0, 1), WaySearch.WRONG);
        Check.due("pipes", x.told(1), 3);
        Check.due("next number", x.pipe(1, 0, 5), 3);
    }

    private static void orderOfRefusals() {
        WaySearch x = twoTanksAndAValve();
        Check.due("none twice", x.pipe(9, 9, 1), WaySearch.WRONG);
        Check.due("none, no litres", x.pipe(0, 9, 0), WaySearch.WRONG);
        for (int i = 0; i < 96; i++) {
            x.pipe(0, 1, 1);
        }
        Check.due("full, to none", x.pipe(0, 9, 1), WaySearch.WRONG);
        Check.due("full, to itself", x.pipe(0, 0, 1), WaySearch.NONE);
        Check.due("full, no litres", x.pipe(0, 1, 0), WaySearch.NONE);
        Check.due("full", x.pipe(0, 1, 1), WaySearch.FULL);
    }

    private static void full() {
        WaySearch x = twoTanksAndAValve();
        for (int i = 0; i < 96; i++) {
            Check.due("pipe " + i, x.pipe(0, 1, 97 - i), i);
        }
        Check.due("97th", x.pipe(0, 1, 1), WaySearch.FULL);
        Check.due("pipes", x.told(1), 96);
        Check.due("way", x.way(0, 1), 0);
        Check.duePipes(x, 0, 95);
        Check.due("last pipe runs", x.run(95, true), true);
        Check.due("none behind it", x.run(96, true), false);
        Check.due("97th did not come", x.way(0, 1), 1);
        Check.duePipes(x, 1, 94);
    }

    private static void runTellsWhatIsNew() {
        WaySearch x = twoTanksAndAValve();
        x.pipe(0, 1, 1);
        x.pipe(0, 2, 1);
        Check.due("stands already", x.run(0, false), false);
        Check.due("runs now", x.run(0, true), true);
        Check.due("runs already", x.run(0, true), false);
        Check.due("running pipes", x.told(4), 1);
        Check.due("another one runs", x.run(1, true), true);
        Check.due("running pipes", x.told(4), 2);
        Check.due("stands now", x.run(0, false), true);
        Check.due("stands again", x.run(0, false), false);
        Check.due("running pipes", x.told(4), 1);
        int[] none = {2, -1, 96, 1000, Integer.MAX_VALUE, Integer.MIN_VALUE};
        for (int pipe : none) {
            Check.due("run(" + pipe + ", true)", x.run(pipe, true), false);
            Check.due("run(" + pipe + ", false)", x.run(pipe, false), false);
        }
        Check.due("running pipes", x.told(4), 1);
    }

    private static void runShutsPipe() {
        WaySearch x = twoTanksAndAValve();
        x.pipe(0, 1, 1);
        x.pipe(0, 1, 2);
        x.run(0, true);
        Check.due("a tank at a running pipe is open", x.way(0, 1), 0);
        Check.duePipes(x, 0, 1);
        x.run(1, true);
        Check.due("both run", x.way(0, 1), WaySearch.NONE);
        x.run(0, false);
        Check.due("one stands", x.way(0, 1), 1);
        Check.duePipes(x, 1, 0);
    }

    private static void runShutsPumpsAndValves() {
        WaySearch x = twoTanksAndAValve();
        int pump = x.pump();
        int aside = x.valve();
        x.pipe(0, 2, 1);
        x.pipe(2, 1, 1);
        x.pipe(0, pump, 5);
        x.pipe(pump, 1, 5);
        x.pipe(2, aside, 1);
        x.pipe(aside, pump, 1);
        x.forward(pump, 0, 1);
        x.way(0, 1);
        Check.duePipes(x, 0, 0, 1);
        x.run(4, true);
        Check.due("a valve at a running pipe", x.way(0, 1), 1);
        Check.duePipes(x, 1, 2, 3);
        x.run(5, true);
        Check.due("a pump at a running pipe", x.way(0, 1), WaySearch.NONE);
        x.run(4, false);
        Check.due("the valve is open again", x.way(0, 1), 2);
        Check.duePipes(x, 2, 0, 1);
        x.run(0, true);
        x.run(5, false);
        Check.due("a running pipe's other end is shut too", x.way(0, 1), 3);
        Check.duePipes(x, 3, 2, 3);
        Check.due("what was found is kept", x.rest(0), 2);
    }
}
