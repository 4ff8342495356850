/** The boundary cases of promise 16: blow. */
public final class Promise16BlowTest extends Sentences {
    private static final String PIPE_K = "Pipe k, from 0, of those that can be flushed back on a way";
    private static final String HOW_FAR = "from its last pipe back, as far as no pump stands between.";

    public static void main(String[] args) {
        runAll(Promise16BlowTest.class);
    }

    /** A row of pumps and valves between tanks 0 and 1: a P stands for a pump, a V for a valve. */
    private static House row(String kinds) {
        House house = tanks(2);
        int last = 0;
        for (int i = 0; i < kinds.length(); i++) {
            int thing = kinds.charAt(i) == 'P' ? house.pump() : house.valve();
            house.pipe(last, thing, 1);
            last = thing;
        }
        house.pipe(last, 1, 1);
        for (int i = 0; i < kinds.length(); i++) {
            if (kinds.charAt(i) == 'P') {
                house.forward(i + 2, i == 0 ? 0 : i + 1, i == kinds.length() - 1 ? 1 : i + 3);
            }
        }
        house.due(0).way(0, 1);
        return house;
    }

    @Sentence(promise = 16, says = PIPE_K)
    static void onePipeAlone() {
        row("").dueBlown(0, 0);
    }

    @Sentence(promise = 16, says = HOW_FAR)
    static void noPumpOnTheWay() {
        row("V").dueBlown(0, 1, 0);
        row("VVV").dueBlown(0, 3, 2, 1, 0);
    }

    @Sentence(promise = 16, says = HOW_FAR)
    static void aPumpAtTheFirstAndAtTheLastPlace() {
        row("P").dueBlown(0, 1);
        row("PV").dueBlown(0, 2, 1);
        row("VP").dueBlown(0, 2);
        row("PVV").dueBlown(0, 3, 2, 1);
        row("VPV").dueBlown(0, 3, 2);
        row("VVP").dueBlown(0, 3);
    }

    @Sentence(promise = 16, says = HOW_FAR)
    static void theLastOfSeveralPumps() {
        row("PP").dueBlown(0, 2);
        row("PVP").dueBlown(0, 3);
        row("PPV").dueBlown(0, 3, 2);
        row("PVPVV").dueBlown(0, 5, 4, 3);
    }

    @Sentence(promise = 16, says = PIPE_K)
    static void allPipesOfTheLongestWay() {
        House x = row("V".repeat(MOST_THINGS - 2));
        for (int k = 0; k < MOST_THINGS - 1; k++) {
            x.due(46 - k).blow(0, k);
        }
        x.due(NONE).blow(0, 47);
        House behindAPump = row("P" + "V".repeat(MOST_THINGS - 3));
        behindAPump.due(46).blow(0, 0);
        behindAPump.due(1).blow(0, 45);
        behindAPump.due(NONE).blow(0, 46);
        behindAPump.due(NONE).blow(0, 47);
    }

    @Sentence(promise = 16, says = PIPE_K)
    static void theFirstAndTheLastWay() {
        House x = fullOfWays();
        x.dueBlown(0, 2, 1);
        x.dueBlown(63, 3, 4);
        x.due(WRONG).blow(64, 0);
    }

    @Sentence(promise = 16, says = "WRONG, NONE.")
    static void noSuchWay() {
        House x = mixed();
        for (int none : outside(MIXED_WAYS)) {
            x.due(WRONG).blow(none, 0);
        }
        House full = fullOfWays();
        for (int none : outside(MOST_WAYS)) {
            full.due(WRONG).blow(none, 0);
        }
    }

    @Sentence(promise = 16, says = "NONE.")
    static void noSuchPipe() {
        House behindAPump = mixed();
        for (int none : outside(2)) {
            behindAPump.due(NONE).blow(0, none);
        }
        House allPipes = mixed();
        for (int none : outside(2)) {
            allPipes.due(NONE).blow(1, none);
        }
        House onePipe = row("");
        for (int none : outside(1)) {
            onePipe.due(NONE).blow(0, none);
        }
    }

    @Sentence(promise = 16, says = "WRONG, NONE.")
    static void wrongComesBeforeNone() {
        House x = mixed();
        for (int noWay : outside(MIXED_WAYS)) {
            for (int noPipe : outside(MIXED_PIPES)) {
                x.due(WRONG).blow(noWay, noPipe);
            }
        }
    }

    @Sentence(promise = 16, says = "WRONG, NONE.")
    static void refusedLeavesEverythingAsItWas() {
        leavesAllOfMixed(x -> {
            for (int none : outside(MIXED_WAYS)) {
                x.due(WRONG).blow(none, 0);
                x.due(NONE).blow(0, none);
                x.due(NONE).blow(1, none);
                x.due(NONE).blow(2, none);
            }
            x.due(NONE).blow(0, 2);
        });
    }
}
