import java.util.function.Consumer;

/** The boundary of how long an object is used: its 512th call is answered as its first one is. */
public final class CallsTest extends Sentences {
    private static final String CALLS = "An object is used for at most 512 calls after it has been made;"
            + " what later calls answer is free.";
    private static final int MOST_CALLS = 512;

    public static void main(String[] args) {
        runAll(CallsTest.class);
    }

    private static void asTheLastCall(Consumer<House> call) {
        House x = mixed();
        while (x.calls() < MOST_CALLS - 1) {
            x.due(MIXED_THINGS).told(0);
        }
        call.accept(x);
        Check.due("calls", x.calls(), MOST_CALLS);
    }

    @Sentence(promise = {2, 3, 4, 5}, in = "What it is", says = CALLS)
    static void somethingNewComesWithTheLastCall() {
        asTheLastCall(x -> x.due(9).tank(true));
        asTheLastCall(x -> x.due(9).pump());
        asTheLastCall(x -> x.due(9).valve());
        asTheLastCall(x -> x.due(12).pipe(0, 1, 1));
        asTheLastCall(x -> x.due(WRONG).pipe(0, 9, 1));
    }

    @Sentence(promise = {6, 7, 14, 15}, in = "What it is", says = CALLS)
    static void marksAndCountsInTheLastCall() {
        asTheLastCall(x -> x.due(true).run(9, false));
        asTheLastCall(x -> x.due(false).run(9, true));
        asTheLastCall(x -> x.due(true).bar(7, false));
        asTheLastCall(x -> x.due(false).bar(7, true));
        asTheLastCall(x -> x.due(true).forward(3, 5, 0));
        asTheLastCall(x -> x.due(false).forward(3, 5, 5));
        asTheLastCall(x -> x.due(3).told(2));
    }

    @Sentence(promise = {8, 12, 13}, in = "What it is", says = CALLS)
    static void waysAreFoundInTheLastCall() {
        asTheLastCall(x -> x.due(3).way(0, 1));
        asTheLastCall(x -> x.due(EMPTY).way(2, 1));
        asTheLastCall(x -> x.due(3).other(0, 0));
        asTheLastCall(x -> x.due(4).two(0, 1, 1, 0));
    }

    @Sentence(promise = {9, 10, 11, 16}, in = "What it is", says = CALLS)
    static void keptWaysAreReadInTheLastCall() {
        asTheLastCall(x -> x.due(2).pipeOf(0, 2));
        asTheLastCall(x -> x.due(5).valveOf(0, 0));
        asTheLastCall(x -> x.due(9).rest(0));
        asTheLastCall(x -> x.due(1).blow(0, 1));
        asTheLastCall(x -> x.due(NONE).blow(0, 2));
    }
}
