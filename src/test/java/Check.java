import java.util.HashSet;
import java.util.Set;

/** Compares answers with those that are due, and ends a test with exit code 1 if one differed. */
final class Check {
    private static final Set<String> PRINTED = new HashSet<>();
    private static int compared = 0;
    private static int wrong = 0;
    private static String about = "";

    private Check() {
    }

    /** What the answers from now on are compared for; it is printed before each that differs. */
    static void begin(String what) {
        about = what.isEmpty() ? "" : what + ": ";
    }

    static int compared() {
        return compared;
    }

    static void due(String call, long got, long want) {
        compared++;
        if (got != want) {
            fail(call + " answered " + got + ", due is " + want);
        }
    }

    static void due(String call, boolean got, boolean want) {
        due(call, got ? 1 : 0, want ? 1 : 0);
    }

    /** A test may build the same house many times: what it tells then is printed once. */
    static void fail(String line) {
        wrong++;
        if (PRINTED.add(about + line)) {
            System.out.println(about + line);
        }
    }

    /** The pipes of a way, in their order, with the end of the row. */
    static void duePipes(WaySearch x, int way, int... want) {
        for (int k = 0; k < want.length; k++) {
            due("pipeOf(" + way + ", " + k + ")", x.pipeOf(way, k), want[k]);
        }
        due("pipeOf(" + way + ", " + want.length + ")", x.pipeOf(way, want.length), WaySearch.NONE);
    }

    /** The valves of a way, in their order, with the end of the row. */
    static void dueValves(WaySearch x, int way, int... want) {
        for (int k = 0; k < want.length; k++) {
            due("valveOf(" + way + ", " + k + ")", x.valveOf(way, k), want[k]);
        }
        due("valveOf(" + way + ", " + want.length + ")", x.valveOf(way, want.length), WaySearch.NONE);
    }

    /** The pipes of a way that can be flushed back, in their order, with the end of the row. */
    static void dueBlown(WaySearch x, int way, int... want) {
        for (int k = 0; k < want.length; k++) {
            due("blow(" + way + ", " + k + ")", x.blow(way, k), want[k]);
        }
        due("blow(" + way + ", " + want.length + ")", x.blow(way, want.length), WaySearch.NONE);
    }

    static void end() {
        System.out.println(compared + " answers compared, " + wrong + " not as due");
        if (wrong != 0 || compared == 0) {
            System.exit(1);
        }
    }
}
