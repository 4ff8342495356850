/** The boundary cases of promise 9: pipeOf. */
public final class Promise09PipeOfTest extends Sentences {
    private static final String PIPE_K = "Pipe k of a way, from 0";

    public static void main(String[] args) {
        runAll(Promise09PipeOfTest.class);
    }

    @Sentence(promise = 9, says = PIPE_K)
    static void theFirstAndTheLastPipe() {
        House x = mixed();
        x.duePipes(0, 0, 1, 2);
        x.duePipes(1, 3, 4);
        x.duePipes(2, 4, 3);
    }

    @Sentence(promise = 9, says = PIPE_K)
    static void everyPipeOfTheLongestWay() {
        House x = rowOfValves(MOST_THINGS - 2, 1);
        x.way(0, 1);
        x.way(1, 0);
        for (int k = 0; k < MOST_THINGS - 1; k++) {
            x.due(k).pipeOf(0, k);
            x.due(46 - k).pipeOf(1, k);
        }
        x.due(NONE).pipeOf(0, 47);
    }

    @Sentence(promise = 9, says = PIPE_K)
    static void theFirstAndTheLastWay() {
        House x = fullOfWays();
        x.duePipes(0, 0, 1, 2);
        x.duePipes(62, 0, 1, 2);
        x.duePipes(63, 4, 3);
        x.due(WRONG).pipeOf(64, 0);
    }

    @Sentence(promise = 9, says = "WRONG, NONE.")
    static void noSuchWay() {
        House x = mixed();
        for (int none : outside(MIXED_WAYS)) {
            x.due(WRONG).pipeOf(none, 0);
        }
        House full = fullOfWays();
        for (int none : outside(MOST_WAYS)) {
            full.due(WRONG).pipeOf(none, 0);
        }
    }

    @Sentence(promise = 9, says = "NONE.")
    static void noSuchPipeOfIt() {
        House x = mixed();
        for (int none : outside(3)) {
            x.due(NONE).pipeOf(0, none);
        }
        for (int none : outside(2)) {
            x.due(NONE).pipeOf(1, none);
        }
    }

    @Sentence(promise = 9, says = "WRONG, NONE.")
    static void wrongComesBeforeNone() {
        House x = mixed();
        for (int noWay : outside(MIXED_WAYS)) {
            for (int noPipe : outside(MIXED_PIPES)) {
                x.due(WRONG).pipeOf(noWay, noPipe);
            }
        }
    }

    @Sentence(promise = 9, says = "WRONG, NONE.")
    static void refusedLeavesEverythingAsItWas() {
        leavesAllOfMixed(x -> {
            for (int none : outside(MIXED_WAYS)) {
                x.due(WRONG).pipeOf(none, 0);
                x.due(NONE).pipeOf(0, none);
                x.due(NONE).pipeOf(1, none);
                x.due(NONE).pipeOf(2, none);
            }
        });
    }
}
