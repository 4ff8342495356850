/** The boundary cases of promise 5: pipe. */
public final class Promise05PipeTest extends Sentences {
    private static final String PIPE =
            "A pipe of some litres (1 to 1,000,000,000) between two things: its number.";
    private static final String NO_THING = "WRONG when a or b is none";
    private static final String NOT_SO_MANY = "NONE when litres are not so many";
    private static final String BOTH_ONE = "NONE when litres are not so many, or both are one";

    /** Too few and too many; some would be good if their lower 32 bits alone were looked at. */
    private static final long[] BAD_LITRES = {
        0, -1, -MOST_LITRES, MOST_LITRES + 1, MOST_LITRES + 2, Integer.MAX_VALUE, Integer.MIN_VALUE,
        (1L << 32) + 1, 1L << 32, (1L << 33) + MOST_LITRES, 1 - (1L << 32),
        Long.MAX_VALUE, Long.MAX_VALUE - 1, Long.MIN_VALUE, Long.MIN_VALUE + 1};

    public static void main(String[] args) {
        runAll(Promise05PipeTest.class);
    }

    @Sentence(promise = 5, says = PIPE)
    static void theFewestAndTheMostLitres() {
        long[] good = {1, 2, MOST_LITRES - 1, MOST_LITRES};
        for (long litres : good) {
            House x = tanks(2);
            x.due(0).pipe(0, 1, litres);
            x.due(0).way(0, 1);
            x.due(litres).rest(0);
        }
    }

    @Sentence(promise = 5, says = PIPE)
    static void theFirstAndTheLastNumber() {
        House x = tanks(2);
        for (int i = 0; i < MOST_PIPES; i++) {
            x.due(i).pipe(i % 2, 1 - i % 2, 200 - i);
        }
        x.due(96).told(1);
        x.due(0).way(0, 1);
        x.duePipes(0, 95);
        x.due(105).rest(0);
    }

    @Sentence(promise = 5, says = "between two things: its number.")
    static void betweenThingsOfAllKinds() {
        House x = new House();
        for (int i = 0; i < 2; i++) {
            x.tank(i == 1);
            x.pump();
            x.valve();
        }
        int next = 0;
        for (int a = 0; a < 6; a++) {
            for (int b = 0; b < 6; b++) {
                x.due(a == b ? NONE : next).pipe(a, b, 1);
                next += a == b ? 0 : 1;
            }
        }
        x.due(30).told(1);
    }

    @Sentence(promise = 5, says = "between two things: its number.")
    static void betweenTheFirstAndTheLastThing() {
        House x = tanks(MOST_THINGS);
        x.due(0).pipe(0, 47, 1);
        x.due(1).pipe(47, 46, 1);
        x.due(0).way(0, 47);
        x.due(1).way(46, 47);
    }

    @Sentence(promise = 5, says = "between two things: its number.")
    static void betweenBarredThingsAndBesidePipesThatRun() {
        House x = tanks(2);
        x.due(0).pipe(0, 1, 1);
        x.run(0, true);
        x.bar(0, true);
        x.due(1).pipe(0, 1, 1);
        x.bar(0, false);
        x.due(0).way(0, 1);
        x.duePipes(0, 1);
    }

    @Sentence(promise = 5, says = NO_THING)
    static void noThingAtOneEndOrBoth() {
        for (int none : outside(MIXED_THINGS)) {
            House x = mixed();
            x.due(WRONG).pipe(none, 0, 1);
            x.due(WRONG).pipe(0, none, 1);
            x.due(WRONG).pipe(none, none + 1, 1);
            x.due(MIXED_PIPES).told(1);
        }
        House x = mixed();
        x.due(WRONG).pipe(MIXED_THINGS, MIXED_THINGS - 1, 1);
        x.due(MIXED_PIPES).pipe(0, MIXED_THINGS - 1, 1);
    }

    @Sentence(promise = 5, says = NO_THING)
    static void noThingBehindTheLastThereCanBe() {
        House x = fullOfThings();
        x.due(WRONG).pipe(0, 48, 1);
        x.due(WRONG).pipe(48, 0, 1);
        x.due(MIXED_PIPES).pipe(0, 47, 1);
        x.due(MIXED_PIPES + 1).pipe(47, 0, 1);
    }

    @Sentence(promise = 5, says = NO_THING)
    static void wrongComesBeforeNone() {
        House x = mixed();
        for (int none : outside(MIXED_THINGS)) {
            x.due(WRONG).pipe(none, none, 1);
            x.due(WRONG).pipe(none, 0, 0);
            x.due(WRONG).pipe(0, none, MOST_LITRES + 1);
            x.due(WRONG).pipe(none, none, Long.MIN_VALUE);
        }
    }

    @Sentence(promise = 5, says = NO_THING)
    static void wrongComesBeforeFull() {
        House x = fullOfPipes();
        for (int none : outside(MIXED_THINGS)) {
            x.due(WRONG).pipe(none, 0, 1);
            x.due(WRONG).pipe(0, none, 1);
            x.due(WRONG).pipe(none, none, 0);
        }
    }

    @Sentence(promise = 5, says = NO_THING)
    static void wrongLeavesEverythingAsItWas() {
        leavesAllOfMixed(x -> {
            for (int none : outside(MIXED_THINGS)) {
                x.due(WRONG).pipe(none, 8, 1);
                x.due(WRONG).pipe(8, none, 1);
            }
        });
    }

    @Sentence(promise = 5, says = NOT_SO_MANY)
    static void tooFewAndTooManyLitres() {
        for (long litres : BAD_LITRES) {
            House x = tanks(2);
            x.due(NONE).pipe(0, 1, litres);
            x.due(NONE).pipe(1, 0, litres);
            x.due(0).told(1);
            x.due(NONE).way(0, 1);
        }
    }

    @Sentence(promise = 5, says = BOTH_ONE)
    static void bothEndsAreOne() {
        House x = mixed();
        for (int thing = 0; thing < MIXED_THINGS; thing++) {
            x.due(NONE).pipe(thing, thing, 1);
            x.due(NONE).pipe(thing, thing, 0);
        }
        x.due(MIXED_PIPES).told(1);
        x.due(1).told(6);
    }

    @Sentence(promise = 5, says = BOTH_ONE)
    static void noneComesBeforeFull() {
        House x = fullOfPipes();
        for (long litres : BAD_LITRES) {
            x.due(NONE).pipe(0, 1, litres);
        }
        x.due(NONE).pipe(0, 0, 1);
        x.due(NONE).pipe(8, 8, MOST_LITRES);
    }

    @Sentence(promise = 5, says = BOTH_ONE)
    static void noneLeavesEverythingAsItWas() {
        leavesAllOfMixed(x -> {
            for (long litres : BAD_LITRES) {
                x.due(NONE).pipe(8, 0, litres);
            }
            x.due(NONE).pipe(8, 8, 1);
            x.due(NONE).pipe(0, 0, 1);
        });
    }

    @Sentence(promise = 5, says = "FULL.")
    static void fullBehindTheLast() {
        House x = fullOfPipes();
        x.due(96).told(1);
        x.due(FULL).pipe(0, 1, 1);
        x.due(FULL).pipe(1, 0, MOST_LITRES);
        x.due(FULL).pipe(8, 7, 1);
        x.due(96).told(1);
        x.due(false).run(96, true);
    }

    @Sentence(promise = 5, says = "FULL.")
    static void fullLeavesEverythingAsItWas() {
        leavesAll(Sentences::fullOfPipes, x -> {
            x.due(FULL).pipe(0, 1, 1);
            x.due(FULL).pipe(8, 0, 1);
        });
    }

    @Sentence(promise = 5, says = "FULL.")
    static void fullOfPipesAlone() {
        fullOfThings().due(MIXED_PIPES).pipe(0, 1, 1);
        fullOfWays().due(MIXED_PIPES).pipe(0, 1, 1);
    }
}
