/** The boundary cases of promise 12: other. */
public final class Promise12OtherTest extends Sentences {
    private static final String FINDS = "Finds the least way, as it is now, between the ends of a way"
            + " without pipe k of it: its number.";
    private static final String NO_PIPE = "NONE when it has no pipe k";
    private static final String NO_WAY = "NONE when it has no pipe k, or there is no such way";
    private static final String ORDER = "WRONG; NONE when it has no pipe k, or there is no such way; FULL.";

    public static void main(String[] args) {
        runAll(Promise12OtherTest.class);
    }

    @Sentence(promise = 12, says = FINDS)
    static void withoutTheFirstAndTheLastPipe() {
        House x = tanks(2);
        int valve = x.valve();
        x.pipe(0, valve, 1);
        x.pipe(0, valve, 2);
        x.pipe(valve, 1, 1);
        x.pipe(valve, 1, 2);
        x.due(0).way(0, 1);
        x.duePipes(0, 0, 2);
        x.due(1).other(0, 0);
        x.duePipes(1, 1, 2);
        x.due(2).other(0, 1);
        x.duePipes(2, 0, 3);
    }

    @Sentence(promise = 12, says = FINDS)
    static void theFirstAndTheLastNumber() {
        House x = tanks(2);
        x.pipe(0, 1, 1);
        x.pipe(0, 1, 2);
        x.way(0, 1);
        for (int i = 1; i < MOST_WAYS; i++) {
            x.due(i).other(i - 1, 0);
        }
        x.due(64).told(2);
        x.duePipes(1, 1);
        x.duePipes(62, 0);
        x.duePipes(63, 1);
        x.due(FULL).other(63, 0);
    }

    @Sentence(promise = 12, says = "between the ends of a way")
    static void fromTheSameEndToTheSameEnd() {
        House x = mixed();
        x.due(3).other(2, 0);
        x.duePipes(3, 2, 10, 3);
        x.due(4).other(1, 0);
        x.duePipes(4, 0, 1, 2);
    }

    @Sentence(promise = 12, says = "as it is now")
    static void asItIsNowAndNotAsItWas() {
        House x = mixed();
        x.bar(7, false);
        x.due(3).other(0, 0);
        x.duePipes(3, 6, 7);
        x.bar(7, true);
        x.bar(6, true);
        x.due(4).other(0, 0);
        x.duePipes(4, 11);
        x.run(11, true);
        x.due(NONE).other(0, 0);
        x.due(5).other(1, 0);
        x.duePipes(5, 0, 1, 2);
        x.bar(0, true);
        x.due(NONE).other(1, 0);
    }

    @Sentence(promise = 12, says = "without pipe k of it")
    static void withoutItForThisCallAlone() {
        House x = tanks(2);
        x.pipe(0, 1, 1);
        x.pipe(0, 1, 2);
        x.way(0, 1);
        x.due(1).other(0, 0);
        x.duePipes(1, 1);
        x.due(0).told(4);
        x.due(2).way(0, 1);
        x.duePipes(2, 0);
    }

    @Sentence(promise = 12, says = ORDER)
    static void noSuchWayNumber() {
        House x = mixed();
        for (int none : outside(MIXED_WAYS)) {
            x.due(WRONG).other(none, 0);
        }
        x.due(MIXED_WAYS).told(2);
        x.due(MIXED_WAYS).other(MIXED_WAYS - 1, 0);
    }

    @Sentence(promise = 12, says = ORDER)
    static void wrongComesBeforeNone() {
        House x = mixed();
        for (int noWay : outside(MIXED_WAYS)) {
            for (int noPipe : outside(MIXED_PIPES)) {
                x.due(WRONG).other(noWay, noPipe);
            }
        }
    }

    @Sentence(promise = 12, says = ORDER)
    static void wrongComesBeforeFull() {
        House x = fullOfWays();
        for (int none : outside(MOST_WAYS)) {
            x.due(WRONG).other(none, 0);
            x.due(WRONG).other(none, -1);
        }
    }

    @Sentence(promise = 12, says = ORDER)
    static void wrongLeavesEverythingAsItWas() {
        leavesAllOfMixed(x -> {
            for (int none : outside(MIXED_WAYS)) {
                x.due(WRONG).other(none, 0);
            }
        });
    }

    @Sentence(promise = 12, says = NO_PIPE)
    static void noPipeKOfIt() {
        House x = mixed();
        for (int none : outside(3)) {
            x.due(NONE).other(0, none);
        }
        for (int none : outside(2)) {
            x.due(NONE).other(1, none);
        }
        x.due(MIXED_WAYS).told(2);
        x.due(3).other(0, 2);
        x.due(4).other(1, 1);
    }

    @Sentence(promise = 12, says = NO_PIPE)
    static void noPipeKOfTheShortestAndTheLongestWay() {
        House shortest = tanks(2);
        shortest.pipe(0, 1, 1);
        shortest.pipe(0, 1, 1);
        shortest.way(0, 1);
        shortest.due(NONE).other(0, 1);
        shortest.due(NONE).other(0, -1);
        shortest.due(1).other(0, 0);
        House longest = rowOfValves(MOST_THINGS - 2, 1);
        longest.pipe(0, 1, 1000);
        longest.due(0).way(0, 1);
        longest.due(NONE).other(0, 47);
        longest.due(1).other(0, 46);
        longest.duePipes(1, 47);
    }

    @Sentence(promise = 12, says = NO_WAY)
    static void noOtherWay() {
        House x = rowOfValves(MOST_THINGS - 2, 1);
        x.way(0, 1);
        for (int k = 0; k < MOST_THINGS - 1; k++) {
            x.due(NONE).other(0, k);
        }
        x.due(1).told(2);
    }

    @Sentence(promise = 12, says = ORDER)
    static void noneComesBeforeFull() {
        House x = fullOfWays();
        for (int none : outside(3)) {
            x.due(NONE).other(0, none);
        }
        x.due(FULL).other(0, 0);
        x.bar(6, true);
        x.run(11, true);
        x.due(NONE).other(0, 0);
        x.due(64).told(2);
    }

    @Sentence(promise = 12, says = NO_WAY)
    static void noneLeavesEverythingAsItWas() {
        leavesAllOfMixed(x -> {
            for (int none : outside(3)) {
                x.due(NONE).other(0, none);
                x.due(NONE).other(1, none);
                x.due(NONE).other(2, none);
            }
        });
        leavesAll(() -> {
            House x = mixed();
            x.bar(6, true);
            x.run(11, true);
            return x;
        }, x -> {
            x.due(NONE).other(0, 0);
            x.due(NONE).other(0, 2);
        });
    }

    @Sentence(promise = 12, says = "FULL.")
    static void fullBehindTheLast() {
        House x = withWays(MOST_WAYS - 1);
        x.due(63).other(0, 0);
        x.due(FULL).other(0, 0);
        x.due(FULL).other(63, 1);
        x.due(64).told(2);
        x.due(WRONG).rest(64);
    }

    @Sentence(promise = 12, says = "FULL.")
    static void fullLeavesEverythingAsItWas() {
        leavesAll(Sentences::fullOfWays, x -> {
            x.due(FULL).other(0, 0);
            x.due(FULL).other(63, 1);
        });
    }
}
