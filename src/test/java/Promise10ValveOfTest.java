/** The boundary cases of promise 10: valveOf. */
public final class Promise10ValveOfTest extends Sentences {
    private static final String VALVE_K = "The valve that is gone through as number k, from 0";

    public static void main(String[] args) {
        runAll(Promise10ValveOfTest.class);
    }

    @Sentence(promise = 10, says = VALVE_K)
    static void theFirstAndTheLastValve() {
        House x = mixed();
        x.dueValves(0, 5);
        x.dueValves(1, 6);
        x.bar(6, true);
        x.pipe(5, 8, 1);
        x.pipe(8, 0, 1);
        x.due(3).way(1, 0);
        x.dueValves(3, 5, 8);
        x.bar(3, true);
        x.due(4).way(0, 1);
        x.dueValves(4, 8, 5);
    }

    @Sentence(promise = 10, says = VALVE_K)
    static void everyValveOfTheLongestWay() {
        House x = rowOfValves(MOST_THINGS - 2, 1);
        x.way(0, 1);
        x.way(1, 0);
        for (int k = 0; k < MOST_THINGS - 2; k++) {
            x.due(k + 2).valveOf(0, k);
            x.due(47 - k).valveOf(1, k);
        }
        x.due(NONE).valveOf(0, 46);
    }

    @Sentence(promise = 10, says = VALVE_K)
    static void pumpsAndTanksAreNotCounted() {
        House x = tanks(2);
        int before = x.pump();
        int one = x.valve();
        int between = x.pump();
        int another = x.valve();
        int behind = x.pump();
        int last = 0;
        for (int thing = before; thing <= behind; thing++) {
            x.pipe(last, thing, 1);
            last = thing;
        }
        x.pipe(last, 1, 1);
        x.forward(before, 0, one);
        x.forward(between, one, another);
        x.forward(behind, another, 1);
        x.due(0).way(0, 1);
        x.dueValves(0, one, another);
    }

    @Sentence(promise = 10, says = "NONE.")
    static void noValveOnIt() {
        House x = tanks(2);
        int pump = x.pump();
        x.pipe(0, pump, 1);
        x.pipe(pump, 1, 1);
        x.pipe(1, 0, 9);
        x.forward(pump, 0, 1);
        x.due(0).way(0, 1);
        x.due(1).way(1, 0);
        for (int way = 0; way < 2; way++) {
            x.due(NONE).valveOf(way, 0);
            for (int none : outside(0)) {
                x.due(NONE).valveOf(way, none);
            }
        }
    }

    @Sentence(promise = 10, says = "NONE.")
    static void noSuchValveOfIt() {
        House x = mixed();
        for (int none : outside(1)) {
            x.due(NONE).valveOf(0, none);
            x.due(NONE).valveOf(2, none);
        }
    }

    @Sentence(promise = 10, says = "WRONG, NONE.")
    static void noSuchWay() {
        House x = mixed();
        for (int none : outside(MIXED_WAYS)) {
            x.due(WRONG).valveOf(none, 0);
        }
        House full = fullOfWays();
        full.due(6).valveOf(63, 0);
        for (int none : outside(MOST_WAYS)) {
            full.due(WRONG).valveOf(none, 0);
        }
    }

    @Sentence(promise = 10, says = "WRONG, NONE.")
    static void wrongComesBeforeNone() {
        House x = mixed();
        for (int noWay : outside(MIXED_WAYS)) {
            for (int noValve : outside(MIXED_THINGS)) {
                x.due(WRONG).valveOf(noWay, noValve);
            }
        }
    }

    @Sentence(promise = 10, says = "WRONG, NONE.")
    static void refusedLeavesEverythingAsItWas() {
        leavesAllOfMixed(x -> {
            for (int none : outside(MIXED_WAYS)) {
                x.due(WRONG).valveOf(none, 0);
                x.due(NONE).valveOf(0, none);
                x.due(NONE).valveOf(1, none);
                x.due(NONE).valveOf(2, none);
            }
        });
    }
}
