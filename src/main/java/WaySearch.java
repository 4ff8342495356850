import java.util.Arrays;

/** Ways of liquids through a house of tanks, pumps, valves and pipes. */
public final class WaySearch {
    public static final int NONE = -1;
    public static final int WRONG = -2;
    public static final int SAME = -3;
    public static final int EMPTY = -4;
    public static final int FULL = -5;

    private static final int MOST_THINGS = 48;
    private static final int MOST_PIPES = 96;
    private static final int MOST_WAYS = 64;
    private static final long MOST_LITRES = 1_000_000_000L;

    private static final int TANK = 0;
    private static final int PUMP = 1;
    private static final int VALVE = 2;

    /** No refusal: every answer that refuses is below zero. */
    private static final int ALLOWED = 0;

    private final Things things;
    private final Pipes pipes;
    private final Search search;
    private final FoundWay[] ways;
    private int wayCount;

    public WaySearch() {
        search = new Search();
        things = search.things;
        pipes = search.pipes;
        ways = new FoundWay[MOST_WAYS];
        wayCount = 0;
    }

    public int tank(boolean empty) {
        return things.add(TANK, empty);
    }

    public int pump() {
        return things.add(PUMP, false);
    }

    public int valve() {
        return things.add(VALVE, false);
    }

    public int pipe(int a, int b, long litres) {
        if (!things.has(a) || !things.has(b)) {
            return WRONG;
        }
        if (litres < 1 || litres > MOST_LITRES || a == b) {
            return NONE;
        }
        return pipes.add(a, b, litres);
    }

    public boolean run(int pipe, boolean on) {
        if (!pipes.has(pipe)) {
            return false;
        }
        return changeMark(pipes.runs, pipe, on);
    }

    public boolean bar(int thing, boolean on) {
        if (!things.has(thing)) {
            return false;
        }
        return changeMark(things.barred, thing, on);
    }

    public int way(int from, int to) {
        int refusal = refusalOfEnds(from, to);
        if (refusal != ALLOWED) {
            return refusal;
        }
        search.openAll();
        return keep(search.leastWay(from, to));
    }

    public int pipeOf(int way, int k) {
        FoundWay found = wayNumbered(way);
        return found == null ? WRONG : found.pipeAt(k);
    }

    public int valveOf(int way, int k) {
        FoundWay found = wayNumbered(way);
        if (found == null) {
            return WRONG;
        }
        int valvesBefore = 0;
        for (int thing : found.things) {
            if (things.isKind(thing, VALVE)) {
                if (valvesBefore == k) {
                    return thing;
                }
                valvesBefore++;
            }
        }
        return NONE;
    }

    public long rest(int way) {
        FoundWay found = wayNumbered(way);
        return found == null ? WRONG : found.litres;
    }

    public int other(int way, int k) {
        FoundWay found = wayNumbered(way);
        if (found == null) {
            return WRONG;
        }
        int without = found.pipeAt(k);
        if (without == NONE) {
            return NONE;
        }
        search.openAll();
        search.shutPipe(without);
        return keep(search.leastWay(found.from, found.to));
    }

    public int two(int a, int b, int c, int d) {
        int refusal = refusalOfEnds(a, b);
        if (refusal == ALLOWED) {
            refusal = refusalOfEnds(c, d);
        }
        if (refusal != ALLOWED) {
            return refusal;
        }
        search.openAll();
        FoundWay first = search.leastWay(a, b);
        if (first == null) {
            return NONE;
        }
        search.shutWay(first);
        FoundWay second = search.leastWay(c, d);
        if (second == null) {
            return NONE;
        }
        if (wayCount + 2 > MOST_WAYS) {
            return FULL;
        }
        keep(first);
        return keep(second);
    }

    public boolean forward(int pump, int a, int b) {
        if (!things.isKind(pump, PUMP) || a == b) {
            return false;
        }
        // A number that is no thing's is at no pipe's end either.
        if (!pipes.anyJoins(pump, a) || !pipes.anyJoins(pump, b)) {
            return false;
        }
        things.in[pump] = a;
        things.out[pump] = b;
        return true;
    }

    public int told(int what) {
        switch (what) {
            case 0:
                return things.count;
            case 1:
                return pipes.count;
            case 2:
                return wayCount;
            case 3:
                return countMarks(things.barred);
            case 4:
                return countMarks(pipes.runs);
            case 5:
                return countMarks(things.empty);
            case 6:
                return countLooseThings();
            default:
                return NONE;
        }
    }

    public int blow(int way, int k) {
        FoundWay found = wayNumbered(way);
        if (found == null) {
            return WRONG;
        }
        int last = found.pipes.length - 1;
        if (k < 0 || k > last) {
            return NONE;
        }
        // Thing i of a way stands behind its pipe i - 1 and before its pipe i.
        for (int i = last; i > last - k; i--) {
            if (things.isKind(found.thingAt(i), PUMP)) {
                return NONE;
            }
        }
        return found.pipeAt(last - k);
    }

    /** What forbids a way between two numbers before any way is looked for, or ALLOWED. */
    private int refusalOfEnds(int from, int to) {
        if (!things.isKind(from, TANK) || !things.isKind(to, TANK)) {
            return WRONG;
        }
        if (from == to) {
            return SAME;
        }
        return things.empty[from] ? EMPTY : ALLOWED;
    }

    private FoundWay wayNumbered(int number) {
        return number >= 0 && number < wayCount ? ways[number] : null;
    }

    private int keep(FoundWay found) {
        if (found == null) {
            return NONE;
        }
        if (wayCount >= MOST_WAYS) {
            return FULL;
        }
        ways[wayCount] = found;
        wayCount++;
        return wayCount - 1;
    }

    private int countLooseThings() {
        int loose = 0;
        for (int thing = 0; thing < things.count; thing++) {
            if (!pipes.anyEndsAt(thing)) {
                loose++;
            }
        }
        return loose;
    }

    private static boolean changeMark(boolean[] marks, int index, boolean on) {
        boolean isNew = marks[index] != on;
        marks[index] = on;
        return isNew;
    }

    private static int countMarks(boolean[] marks) {
        int count = 0;
        for (boolean mark : marks) {
            if (mark) {
                count++;
            }
        }
        return count;
    }

    /** The tanks, pumps and valves. */
    private static final class Things {
        final int[] kind = new int[MOST_THINGS];
        final boolean[] empty = new boolean[MOST_THINGS];
        final boolean[] barred = new boolean[MOST_THINGS];
        final int[] in = new int[MOST_THINGS];
        final int[] out = new int[MOST_THINGS];
        int count = 0;

        int add(int newKind, boolean isEmpty) {
            if (count >= MOST_THINGS) {
                return FULL;
            }
            kind[count] = newKind;
            empty[count] = isEmpty;
            in[count] = NONE;
            out[count] = NONE;
            count++;
            return count - 1;
        }

        boolean has(int thing) {
            return thing >= 0 && thing < count;
        }

        boolean isKind(int thing, int wanted) {
            return has(thing) && kind[thing] == wanted;
        }

        /** Whether neither thing's IN or OUT forbids liquid from one to the other. */
        boolean letFlow(int from, int to) {
            boolean leaves = kind[from] != PUMP || out[from] == to;
            boolean enters = kind[to] != PUMP || in[to] == from;
            return leaves && enters;
        }
    }

    /** The pipes, each with the two things it joins. */
    private static final class Pipes {
        final int[] endA = new int[MOST_PIPES];
        final int[] endB = new int[MOST_PIPES];
        final long[] litres = new long[MOST_PIPES];
        final boolean[] runs = new boolean[MOST_PIPES];
        int count = 0;

        int add(int a, int b, long content) {
            if (count >= MOST_PIPES) {
                return FULL;
            }
            endA[count] = a;
            endB[count] = b;
            litres[count] = content;
            count++;
            return count - 1;
        }

        boolean has(int pipe) {
            return pipe >= 0 && pipe < count;
        }

        boolean anyJoins(int one, int another) {
            for (int pipe = 0; pipe < count; pipe++) {
                boolean asLaid = endA[pipe] == one && endB[pipe] == another;
                boolean turned = endA[pipe] == another && endB[pipe] == one;
                if (asLaid || turned) {
                    return true;
                }
            }
            return false;
        }

        boolean anyEndsAt(int thing) {
            for (int pipe = 0; pipe < count; pipe++) {
                if (endA[pipe] == thing || endB[pipe] == thing) {
                    return true;
                }
            }
            return false;
        }
    }

    /** A way as it was when it was found. */
    private static final class FoundWay {
        final int from;
        final int to;
        final long litres;
        final int[] pipes;
        /** All things on the way, its ends too: one more than pipes. */
        final int[] things;

        FoundWay(int from, int to, long litres, int[] pipes, int[] things) {
            this.from = from;
            this.to = to;
            this.litres = litres;
            this.pipes = pipes;
            this.things = things;
        }

        int pipeAt(int k) {
            return k >= 0 && k < pipes.length ? pipes[k] : NONE;
        }

        int thingAt(int k) {
            return k >= 0 && k < things.length ? things[k] : NONE;
        }
    }

    /**
     * The search for the least way, over the things and pipes that it makes. The rows are made once
     * and used again by every search.
     *
     * A pump lets liquid in from one thing and out to one thing, so whether it flows through a pipe
     * depends on the pipe's two ends alone: each open direction of a pipe is an ARC, and a way is a
     * path of arcs. Every arc costs something, so no cheapest path stands on a thing twice.
     */
    private static final class Search {
        static final int MOST_ARCS = 2 * MOST_PIPES;
        /** More than any way costs. */
        static final long FAR = 1L << 62;
        /** More than all valves together, so that no number of them outweighs a litre. */
        static final long COST_OF_LITRE = 64;
        static final long COST_OF_VALVE = 1;

        final Things things = new Things();
        final Pipes pipes = new Pipes();
        final boolean[] thingIsShut = new boolean[MOST_THINGS];
        final boolean[] pipeIsShut = new boolean[MOST_PIPES];
        final int[] arcPipe = new int[MOST_ARCS];
        final int[] arcFrom = new int[MOST_ARCS];
        final int[] arcTo = new int[MOST_ARCS];
        final long[] arcCost = new long[MOST_ARCS];
        int arcCount = 0;
        final long[] costToEnd = new long[MOST_THINGS];
        final int[] rowPipes = new int[MOST_THINGS];
        final int[] rowThings = new int[MOST_THINGS];

        /** Opens all but what the house itself keeps off every way now. */
        void openAll() {
            for (int thing = 0; thing < things.count; thing++) {
                thingIsShut[thing] = things.barred[thing];
            }
            for (int pipe = 0; pipe < pipes.count; pipe++) {
                pipeIsShut[pipe] = pipes.runs[pipe];
                if (pipes.runs[pipe]) {
                    shutUnlessTank(pipes.endA[pipe]);
                    shutUnlessTank(pipes.endB[pipe]);
                }
            }
        }

        void shutPipe(int pipe) {
            if (pipes.has(pipe)) {
                pipeIsShut[pipe] = true;
            }
        }

        void shutWay(FoundWay found) {
            for (int pipe : found.pipes) {
                shutPipe(pipe);
            }
            for (int thing : found.things) {
                shutUnlessTank(thing);
            }
        }

        void shutUnlessTank(int thing) {
            if (things.has(thing) && things.kind[thing] != TANK) {
                thingIsShut[thing] = true;
            }
        }

        /** The least way over what is open between two different tanks, or null. */
        FoundWay leastWay(int from, int to) {
            layArcs(to);
            reckonCostsTo(to);
            return costToEnd[from] == FAR ? null : followLeast(from, to);
        }

        /** Lays the arcs in the order of their pipes' numbers: the last tie is decided by it. */
        void layArcs(int end) {
            arcCount = 0;
            for (int pipe = 0; pipe < pipes.count; pipe++) {
                if (!pipeIsShut[pipe]) {
                    layArc(pipe, pipes.endA[pipe], pipes.endB[pipe], end);
                    layArc(pipe, pipes.endB[pipe], pipes.endA[pipe], end);
                }
            }
        }

        void layArc(int pipe, int from, int to, int end) {
            boolean shut = thingIsShut[from] || thingIsShut[to];
            boolean deadEnd = things.kind[to] == TANK && to != end;
            if (shut || deadEnd || !things.letFlow(from, to) || arcCount >= MOST_ARCS) {
                return;
            }
            long valveCost = things.kind[to] == VALVE ? COST_OF_VALVE : 0;
            arcPipe[arcCount] = pipe;
            arcFrom[arcCount] = from;
            arcTo[arcCount] = to;
            arcCost[arcCount] = pipes.litres[pipe] * COST_OF_LITRE + valveCost;
            arcCount++;
        }

        void reckonCostsTo(int end) {
            Arrays.fill(costToEnd, FAR);
            costToEnd[end] = 0;
            boolean changed = true;
            for (int round = 0; round < MOST_THINGS && changed; round++) {
                changed = lowerCosts();
            }
        }

        boolean lowerCosts() {
            boolean changed = false;
            for (int arc = 0; arc < arcCount; arc++) {
                long onward = costToEnd[arcTo[arc]];
                if (onward != FAR && onward + arcCost[arc] < costToEnd[arcFrom[arc]]) {
                    costToEnd[arcFrom[arc]] = onward + arcCost[arc];
                    changed = true;
                }
            }
            return changed;
        }

        FoundWay followLeast(int from, int to) {
            int at = from;
            int length = 0;
            rowThings[0] = from;
            while (at != to && length < MOST_THINGS - 1) {
                int arc = firstLeastArc(at);
                if (arc == NONE) {
                    return null;
                }
                at = arcTo[arc];
                rowPipes[length] = arcPipe[arc];
                length++;
                rowThings[length] = at;
            }
            long litres = costToEnd[from] / COST_OF_LITRE;
            int[] wayPipes = Arrays.copyOf(rowPipes, length);
            int[] wayThings = Arrays.copyOf(rowThings, length + 1);
            return new FoundWay(from, to, litres, wayPipes, wayThings);
        }

        /** The arc of the least pipe among those by which a least way leaves a thing. */
        int firstLeastArc(int at) {
            for (int arc = 0; arc < arcCount; arc++) {
                long onward = costToEnd[arcTo[arc]];
                if (arcFrom[arc] == at && onward != FAR && onward + arcCost[arc] == costToEnd[at]) {
                    return arc;
                }
            }
            return NONE;
        }
    }
}
