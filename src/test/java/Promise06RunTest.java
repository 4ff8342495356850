/** The boundary cases of promise 6: run. */
public final class Promise06RunTest extends Sentences {
    private static final String IS_NEW = "A pipe runs from now on, or does not: whether that is new.";
    private static final String NO_PIPE = "False when there is no such pipe.";

    public static void main(String[] args) {
        runAll(Promise06RunTest.class);
    }

    @Sentence(promise = 6, says = IS_NEW)
    static void aNewPipeDoesNotRun() {
        House x = tanks(2);
        for (int pipe = 0; pipe < MOST_PIPES; pipe++) {
            x.pipe(0, 1, 1);
            x.due(false).run(pipe, false);
        }
        x.due(0).told(4);
    }

    @Sentence(promise = 6, says = IS_NEW)
    static void onAndOffAreNewOnce() {
        House x = fullOfPipes();
        int[] firstAndLast = {0, MOST_PIPES - 1};
        for (int pipe : firstAndLast) {
            x.due(1).told(4);
            x.due(true).run(pipe, true);
            x.due(2).told(4);
            x.due(false).run(pipe, true);
            x.due(2).told(4);
            x.due(true).run(pipe, false);
            x.due(1).told(4);
            x.due(false).run(pipe, false);
            x.due(1).told(4);
        }
    }

    @Sentence(promise = 6, says = IS_NEW)
    static void allPipesAtOnce() {
        House x = tanks(2);
        for (int pipe = 0; pipe < MOST_PIPES; pipe++) {
            x.pipe(0, 1, 1);
            x.due(true).run(pipe, true);
        }
        x.due(96).told(4);
        x.due(NONE).way(0, 1);
        x.due(true).run(95, false);
        x.due(0).way(0, 1);
        x.duePipes(0, 95);
    }

    @Sentence(promise = 6, says = "A pipe runs from now on, or does not")
    static void fromNowOnAndNotBefore() {
        House x = tanks(2);
        x.pipe(0, 1, 1);
        x.due(0).way(0, 1);
        x.run(0, true);
        x.due(NONE).way(0, 1);
        x.due(NONE).way(1, 0);
        x.duePipes(0, 0);
        x.run(0, false);
        x.due(1).way(0, 1);
    }

    @Sentence(promise = 6, says = IS_NEW)
    static void whatIsNotNewChangesNothing() {
        leavesAll(Sentences::mixed, x -> {
            x.due(false).run(9, true);
            x.due(false).run(0, false);
            x.due(false).run(11, false);
        });
    }

    @Sentence(promise = 6, says = NO_PIPE)
    static void noSuchPipe() {
        House x = mixed();
        for (int none : outside(MIXED_PIPES)) {
            x.due(false).run(none, true);
            x.due(false).run(none, false);
        }
        x.due(1).told(4);
        x.due(true).run(MIXED_PIPES - 1, true);
        x.due(false).run(MIXED_PIPES, true);
        x.due(2).told(4);
    }

    @Sentence(promise = 6, says = NO_PIPE)
    static void noPipeBehindTheLastThereCanBe() {
        House x = fullOfPipes();
        for (int none : outside(MOST_PIPES)) {
            x.due(false).run(none, true);
        }
        x.due(1).told(4);
        x.due(true).run(95, true);
    }

    @Sentence(promise = 6, says = NO_PIPE)
    static void noSuchPipeLeavesEverythingAsItWas() {
        leavesAllOfMixed(x -> {
            for (int none : outside(MIXED_PIPES)) {
                x.due(false).run(none, true);
            }
        });
        leavesAll(Sentences::fullOfPipes, x -> {
            for (int none : outside(MOST_PIPES)) {
                x.due(false).run(none, true);
            }
        });
    }
}
