import java.util.ArrayList;
import java.util.List;

/** A WaySearch whose answers are written down, and compared with those that are due. */
final class House {
    private static final int MOST_CALLS = 512;

    private final WaySearch search = new WaySearch();
    private final List<String> answers = new ArrayList<>();
    private int calls = 0;
    private boolean isDue = false;
    private long due = 0;

    /** The answer that is due to the next call. */
    House due(long answer) {
        isDue = true;
        due = answer;
        return this;
    }

    House due(boolean answer) {
        return due(answer ? 1 : 0);
    }

    int calls() {
        return calls;
    }

    /** The answers since they were taken last. */
    List<String> takeAnswers() {
        List<String> taken = new ArrayList<>(answers);
        answers.clear();
        return taken;
    }

    int tank(boolean empty) {
        begin();
        return (int) answered(search.tank(empty), "tank", empty);
    }

    int pump() {
        begin();
        return (int) answered(search.pump(), "pump");
    }

    int valve() {
        begin();
        return (int) answered(search.valve(), "valve");
    }

    int pipe(int a, int b, long litres) {
        begin();
        return (int) answered(search.pipe(a, b, litres), "pipe", a, b, litres);
    }

    boolean run(int pipe, boolean on) {
        begin();
        return answered(search.run(pipe, on) ? 1 : 0, "run", pipe, on) == 1;
    }

    boolean bar(int thing, boolean on) {
        begin();
        return answered(search.bar(thing, on) ? 1 : 0, "bar", thing, on) == 1;
    }

    int way(int from, int to) {
        begin();
        return (int) answered(search.way(from, to), "way", from, to);
    }

    int pipeOf(int way, int k) {
        begin();
        return (int) answered(search.pipeOf(way, k), "pipeOf", way, k);
    }

    int valveOf(int way, int k) {
        begin();
        return (int) answered(search.valveOf(way, k), "valveOf", way, k);
    }

    long rest(int way) {
        begin();
        return answered(search.rest(way), "rest", way);
    }

    int other(int way, int k) {
        begin();
        return (int) answered(search.other(way, k), "other", way, k);
    }

    int two(int a, int b, int c, int d) {
        begin();
        return (int) answered(search.two(a, b, c, d), "two", a, b, c, d);
    }

    boolean forward(int pump, int a, int b) {
        begin();
        return answered(search.forward(pump, a, b) ? 1 : 0, "forward", pump, a, b) == 1;
    }

    int told(int what) {
        begin();
        return (int) answered(search.told(what), "told", what);
    }

    int blow(int way, int k) {
        begin();
        return (int) answered(search.blow(way, k), "blow", way, k);
    }

    /** The pipes of a way, in their order, with the end of the row. */
    void duePipes(int way, int... want) {
        for (int k = 0; k < want.length; k++) {
            due(want[k]).pipeOf(way, k);
        }
        due(WaySearch.NONE).pipeOf(way, want.length);
    }

    /** The valves of a way, in their order, with the end of the row. */
    void dueValves(int way, int... want) {
        for (int k = 0; k < want.length; k++) {
            due(want[k]).valveOf(way, k);
        }
        due(WaySearch.NONE).valveOf(way, want.length);
    }

    /** The pipes of a way that can be flushed back, in their order, with the end of the row. */
    void dueBlown(int way, int... want) {
        for (int k = 0; k < want.length; k++) {
            due(want[k]).blow(way, k);
        }
        due(WaySearch.NONE).blow(way, want.length);
    }

    /** The answers to told(0) to told(6). */
    void dueTold(int... want) {
        for (int what = 0; what < want.length; what++) {
            due(want[what]).told(what);
        }
    }

    /** What is answered behind the 512th call is free, so no test may ask for it. */
    private void begin() {
        calls++;
        if (calls > MOST_CALLS) {
            throw new IllegalStateException("the test makes more than 512 calls on one object");
        }
    }

    private long answered(long answer, String name, Object... arguments) {
        StringBuilder call = new StringBuilder(name).append('(');
        for (int i = 0; i < arguments.length; i++) {
            call.append(i == 0 ? "" : ", ").append(arguments[i]);
        }
        call.append(')');
        if (isDue) {
            isDue = false;
            Check.due(call.toString(), answer, due);
        }
        answers.add(call + " answered " + answer);
        return answer;
    }
}
