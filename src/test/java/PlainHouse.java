import java.util.ArrayList;
import java.util.Arrays;
import java.util.HashSet;
import java.util.List;
import java.util.PriorityQueue;
import java.util.Set;
import java.util.TreeSet;

/**
 * The document once more, as plainly as can be and in another manner than the class: rows of pipes
 * grow from the first tank, the least row first, until one of them has come to the last tank.
 */
final class PlainHouse {
    private static final int NONE = -1;
    private static final int WRONG = -2;
    private static final int SAME = -3;
    private static final int EMPTY = -4;
    private static final int FULL = -5;

    private final boolean everyRow;
    private final List<Character> kinds = new ArrayList<>();
    private final Set<Integer> emptyTanks = new TreeSet<>();
    private final Set<Integer> barred = new TreeSet<>();
    private final List<long[]> pipes = new ArrayList<>();
    private final Set<Integer> running = new TreeSet<>();
    private final int[] ins = new int[48];
    private final int[] outs = new int[48];
    private final List<Row> ways = new ArrayList<>();

    /** With everyRow no row is dropped because a lesser one has come to the same thing. */
    PlainHouse(boolean everyRow) {
        this.everyRow = everyRow;
        Arrays.fill(ins, NONE);
        Arrays.fill(outs, NONE);
    }

    private static final class Row implements Comparable<Row> {
        final List<Integer> things = new ArrayList<>();
        final List<Integer> pipes = new ArrayList<>();
        final List<Integer> valves = new ArrayList<>();
        long litres = 0;

        Row(int from) {
            things.add(from);
        }

        Row(Row before, int pipe, long content, int thing, boolean isValve) {
            things.addAll(before.things);
            things.add(thing);
            pipes.addAll(before.pipes);
            pipes.add(pipe);
            valves.addAll(before.valves);
            if (isValve) {
                valves.add(thing);
            }
            litres = before.litres + content;
        }

        int first() {
            return things.get(0);
        }

        int last() {
            return things.get(things.size() - 1);
        }

        @Override
        public int compareTo(Row that) {
            if (litres != that.litres) {
                return Long.compare(litres, that.litres);
            }
            if (valves.size() != that.valves.size()) {
                return Integer.compare(valves.size(), that.valves.size());
            }
            for (int i = 0; i < pipes.size() && i < that.pipes.size(); i++) {
                if (!pipes.get(i).equals(that.pipes.get(i))) {
                    return Integer.compare(pipes.get(i), that.pipes.get(i));
                }
            }
            return 0;
        }
    }

    int thing(char kind, boolean empty) {
        if (kinds.size() == 48) {
            return FULL;
        }
        kinds.add(kind);
        if (empty) {
            emptyTanks.add(kinds.size() - 1);
        }
        return kinds.size() - 1;
    }

    int pipe(int a, int b, long litres) {
        if (kindOf(a) == '-' || kindOf(b) == '-') {
            return WRONG;
        }
        if (litres < 1 || litres > 1_000_000_000L || a == b) {
            return NONE;
        }
        if (pipes.size() == 96) {
            return FULL;
        }
        pipes.add(new long[] {a, b, litres});
        return pipes.size() - 1;
    }

    boolean run(int pipe, boolean on) {
        boolean there = pipe >= 0 && pipe < pipes.size();
        return there && (on ? running.add(pipe) : running.remove(pipe));
    }

    boolean bar(int thing, boolean on) {
        return kindOf(thing) != '-' && (on ? barred.add(thing) : barred.remove(thing));
    }

    boolean forward(int pump, int a, int b) {
        if (kindOf(pump) != 'P' || kindOf(a) == '-' || kindOf(b) == '-' || a == b) {
            return false;
        }
        if (!joined(pump, a) || !joined(pump, b)) {
            return false;
        }
        ins[pump] = a;
        outs[pump] = b;
        return true;
    }

    int way(int from, int to) {
        int refusal = refusal(from, to);
        return refusal != 0 ? refusal : keep(least(from, to, Set.of(), Set.of()));
    }

    int other(int way, int k) {
        if (!isWay(way)) {
            return WRONG;
        }
        Row found = ways.get(way);
        if (k < 0 || k >= found.pipes.size()) {
            return NONE;
        }
        return keep(least(found.first(), found.last(), Set.of(found.pipes.get(k)), Set.of()));
    }

    int two(int a, int b, int c, int d) {
        if (refusal(a, b) != 0) {
            return refusal(a, b);
        }
        if (refusal(c, d) != 0) {
            return refusal(c, d);
        }
        Row first = least(a, b, Set.of(), Set.of());
        if (first == null) {
            return NONE;
        }
        Set<Integer> between = new HashSet<>(first.things.subList(1, first.things.size() - 1));
        Row second = least(c, d, new HashSet<>(first.pipes), between);
        if (second == null) {
            return NONE;
        }
        if (ways.size() > 62) {
            return FULL;
        }
        keep(first);
        return keep(second);
    }

    int pipeOf(int way, int k) {
        return isWay(way) ? element(ways.get(way).pipes, k) : WRONG;
    }

    int valveOf(int way, int k) {
        return isWay(way) ? element(ways.get(way).valves, k) : WRONG;
    }

    long rest(int way) {
        return isWay(way) ? ways.get(way).litres : WRONG;
    }

    int blow(int way, int k) {
        if (!isWay(way)) {
            return WRONG;
        }
        Row found = ways.get(way);
        List<Integer> flushed = new ArrayList<>();
        for (int i = found.pipes.size() - 1; i >= 0; i--) {
            flushed.add(found.pipes.get(i));
            if (kindOf(found.things.get(i)) == 'P') {
                break;
            }
        }
        return element(flushed, k);
    }

    int told(int what) {
        int loose = 0;
        for (int thing = 0; thing < kinds.size(); thing++) {
            int at = thing;
            loose += pipes.stream().anyMatch(p -> p[0] == at || p[1] == at) ? 0 : 1;
        }
        int[] counts = {kinds.size(), pipes.size(), ways.size(), barred.size(), running.size(),
            emptyTanks.size(), loose};
        return what >= 0 && what < counts.length ? counts[what] : NONE;
    }

    boolean isTank(int thing) {
        return kindOf(thing) == 'T';
    }

    private char kindOf(int thing) {
        return thing >= 0 && thing < kinds.size() ? kinds.get(thing) : '-';
    }

    private boolean isWay(int way) {
        return way >= 0 && way < ways.size();
    }

    private static int element(List<Integer> list, int k) {
        return k >= 0 && k < list.size() ? list.get(k) : NONE;
    }

    private boolean joined(int one, int another) {
        return pipes.stream().anyMatch(p -> p[0] == one && p[1] == another
                || p[1] == one && p[0] == another);
    }

    private int refusal(int from, int to) {
        if (kindOf(from) != 'T' || kindOf(to) != 'T') {
            return WRONG;
        }
        return from == to ? SAME : emptyTanks.contains(from) ? EMPTY : 0;
    }

    private int keep(Row row) {
        if (row == null) {
            return NONE;
        }
        if (ways.size() == 64) {
            return FULL;
        }
        ways.add(row);
        return ways.size() - 1;
    }

    private Row least(int from, int to, Set<Integer> noPipes, Set<Integer> noThings) {
        PriorityQueue<Row> rows = new PriorityQueue<>();
        Set<Integer> reached = new HashSet<>();
        if (!isOff(from)) {
            rows.add(new Row(from));
        }
        while (!rows.isEmpty()) {
            Row row = rows.remove();
            int at = row.last();
            if (at == to) {
                return row;
            }
            boolean again = !reached.add(at) && !everyRow;
            if (again || kindOf(at) == 'T' && at != from) {
                continue;
            }
            for (int pipe = 0; pipe < pipes.size(); pipe++) {
                int next = otherEnd(pipe, at);
                boolean left = noPipes.contains(pipe) || running.contains(pipe);
                if (next != NONE && !left && !noThings.contains(next) && mayGoOn(row, next)) {
                    rows.add(new Row(row, pipe, pipes.get(pipe)[2], next, kindOf(next) == 'V'));
                }
            }
        }
        return null;
    }

    private int otherEnd(int pipe, int at) {
        long[] p = pipes.get(pipe);
        return p[0] == at ? (int) p[1] : p[1] == at ? (int) p[0] : NONE;
    }

    private boolean mayGoOn(Row row, int next) {
        int at = row.last();
        if (isOff(next) || row.things.contains(next)) {
            return false;
        }
        if (kindOf(at) == 'P' && outs[at] != next) {
            return false;
        }
        return kindOf(next) != 'P' || ins[next] == at;
    }

    /** Whether a thing is on no way: it is barred, or no tank and at the end of a running pipe. */
    private boolean isOff(int thing) {
        boolean atRunning = running.stream().anyMatch(p -> otherEnd(p, thing) != NONE);
        return barred.contains(thing) || kindOf(thing) != 'T' && atRunning;
    }
}
