/** The boundary cases of promise 8: way. */
public final class Promise08WayTest extends Sentences {
    private static final String FINDS = "Finds the least way from one tank to another one: its number.";
    private static final String NO_TANK = "WRONG when one is no tank";
    private static final String NO_WAY = "NONE when there is no way";
    private static final String ORDER = "WRONG when one is no tank; SAME; EMPTY; NONE when there is no way; FULL.";

    private static final int EMPTY_TANK = 2;
    private static final int PUMP = 3;
    private static final int VALVE = 5;

    public static void main(String[] args) {
        runAll(Promise08WayTest.class);
    }

    @Sentence(promise = 8, says = FINDS)
    static void theFirstAndTheLastNumber() {
        House x = tanks(2);
        x.pipe(0, 1, 1);
        for (int i = 0; i < MOST_WAYS; i++) {
            x.due(i).way(i % 2, 1 - i % 2);
        }
        x.due(64).told(2);
        x.duePipes(0, 0);
        x.duePipes(63, 0);
    }

    @Sentence(promise = 8, says = FINDS)
    static void theShortestWayIsOnePipe() {
        House x = tanks(2);
        x.pipe(1, 0, 1);
        x.due(0).way(0, 1);
        x.duePipes(0, 0);
        x.dueValves(0);
        x.dueBlown(0, 0);
        x.due(1).rest(0);
    }

    @Sentence(promise = 8, says = FINDS)
    static void theLongestWayIsOverAllThings() {
        House x = rowOfValves(MOST_THINGS - 2, 1);
        x.due(0).way(0, 1);
        x.due(0).pipeOf(0, 0);
        x.due(46).pipeOf(0, 46);
        x.due(NONE).pipeOf(0, 47);
        x.due(1).way(1, 0);
        x.due(46).pipeOf(1, 0);
        x.due(0).pipeOf(1, 46);
        x.due(NONE).pipeOf(1, 47);
    }

    @Sentence(promise = 8, says = FINDS)
    static void theSameWayIsFoundAndKeptAgain() {
        House x = tanks(2);
        x.pipe(0, 1, 1);
        x.due(0).way(0, 1);
        x.due(1).way(0, 1);
        x.due(2).told(2);
        x.duePipes(1, 0);
    }

    @Sentence(promise = 8, says = NO_TANK)
    static void noThingAtOneEndOrBoth() {
        for (int none : outside(MIXED_THINGS)) {
            House x = mixed();
            x.due(WRONG).way(none, 0);
            x.due(WRONG).way(0, none);
            x.due(WRONG).way(none, none + 1);
            x.due(MIXED_WAYS).told(2);
        }
        House x = tanks(2);
        x.due(WRONG).way(0, 2);
        x.due(NONE).way(0, 1);
    }

    @Sentence(promise = 8, says = NO_TANK)
    static void noThingBehindTheLastThereCanBe() {
        House x = fullOfThings();
        x.due(WRONG).way(0, 48);
        x.due(WRONG).way(48, 0);
        x.due(NONE).way(0, 47);
    }

    @Sentence(promise = 8, says = NO_TANK)
    static void aPumpOrAValveIsNoTank() {
        House x = mixed();
        for (int thing = PUMP; thing < MIXED_THINGS; thing++) {
            x.due(WRONG).way(thing, 0);
            x.due(WRONG).way(0, thing);
        }
        x.due(WRONG).way(PUMP, VALVE);
        x.due(WRONG).way(VALVE, PUMP);
    }

    @Sentence(promise = 8, says = ORDER)
    static void wrongComesBeforeSame() {
        House x = mixed();
        x.due(WRONG).way(PUMP, PUMP);
        x.due(WRONG).way(VALVE, VALVE);
        for (int none : outside(MIXED_THINGS)) {
            x.due(WRONG).way(none, none);
        }
    }

    @Sentence(promise = 8, says = ORDER)
    static void wrongComesBeforeEmpty() {
        House x = mixed();
        x.due(WRONG).way(EMPTY_TANK, PUMP);
        x.due(WRONG).way(EMPTY_TANK, VALVE);
        for (int none : outside(MIXED_THINGS)) {
            x.due(WRONG).way(EMPTY_TANK, none);
        }
    }

    @Sentence(promise = 8, says = ORDER)
    static void wrongComesBeforeFull() {
        House x = fullOfWays();
        x.due(WRONG).way(0, PUMP);
        x.due(WRONG).way(VALVE, 1);
        for (int none : outside(MIXED_THINGS)) {
            x.due(WRONG).way(none, 1);
            x.due(WRONG).way(0, none);
        }
    }

    @Sentence(promise = 8, says = NO_TANK)
    static void wrongLeavesEverythingAsItWas() {
        leavesAllOfMixed(x -> {
            for (int none : outside(MIXED_THINGS)) {
                x.due(WRONG).way(none, 1);
                x.due(WRONG).way(0, none);
            }
            x.due(WRONG).way(0, VALVE);
            x.due(WRONG).way(PUMP, 1);
        });
    }

    @Sentence(promise = 8, says = "SAME;")
    static void aTankToItself() {
        House x = tanks(MOST_THINGS);
        for (int tank = 0; tank < MOST_THINGS; tank++) {
            x.due(SAME).way(tank, tank);
        }
        x.due(0).told(2);
    }

    @Sentence(promise = 8, says = "SAME;")
    static void toItselfThoughPipesLeadBack() {
        House x = tanks(1);
        int one = x.valve();
        int another = x.valve();
        x.pipe(0, one, 1);
        x.pipe(one, another, 1);
        x.pipe(another, 0, 1);
        x.due(SAME).way(0, 0);
        x.due(0).told(2);
    }

    @Sentence(promise = 8, says = ORDER)
    static void sameComesBeforeEmptyNoneAndFull() {
        mixed().due(SAME).way(EMPTY_TANK, EMPTY_TANK);
        House barred = mixed();
        barred.bar(0, true);
        barred.due(SAME).way(0, 0);
        House full = fullOfWays();
        full.due(SAME).way(0, 0);
        full.due(SAME).way(EMPTY_TANK, EMPTY_TANK);
    }

    @Sentence(promise = 8, says = "SAME;")
    static void sameLeavesEverythingAsItWas() {
        leavesAllOfMixed(x -> {
            x.due(SAME).way(0, 0);
            x.due(SAME).way(1, 1);
            x.due(SAME).way(EMPTY_TANK, EMPTY_TANK);
        });
    }

    @Sentence(promise = 8, says = "EMPTY;")
    static void anEmptyTankIsToGive() {
        House x = mixed();
        x.due(EMPTY).way(EMPTY_TANK, 0);
        x.due(EMPTY).way(EMPTY_TANK, 1);
        x.due(MIXED_WAYS).told(2);
        x.due(MIXED_WAYS).way(0, EMPTY_TANK);
        x.duePipes(MIXED_WAYS, 3, 5);
    }

    @Sentence(promise = 8, says = ORDER)
    static void emptyComesBeforeNoneAndFull() {
        House apart = new House();
        apart.tank(true);
        apart.tank(true);
        apart.due(EMPTY).way(0, 1);
        apart.due(EMPTY).way(1, 0);
        House barred = mixed();
        barred.bar(EMPTY_TANK, true);
        barred.bar(0, true);
        barred.due(EMPTY).way(EMPTY_TANK, 0);
        fullOfWays().due(EMPTY).way(EMPTY_TANK, 0);
    }

    @Sentence(promise = 8, says = "EMPTY;")
    static void emptyLeavesEverythingAsItWas() {
        leavesAllOfMixed(x -> {
            x.due(EMPTY).way(EMPTY_TANK, 0);
            x.due(EMPTY).way(EMPTY_TANK, 1);
        });
    }

    @Sentence(promise = 8, says = NO_WAY)
    static void noPipesAtAllAndOnePipeTooFew() {
        House x = tanks(2);
        x.due(NONE).way(0, 1);
        int valve = x.valve();
        x.due(NONE).way(0, 1);
        x.pipe(0, valve, 1);
        x.due(NONE).way(0, 1);
        x.due(NONE).way(1, 0);
        x.due(0).told(2);
        x.pipe(valve, 1, 1);
        x.due(0).way(0, 1);
    }

    @Sentence(promise = 8, says = NO_WAY)
    static void longestWayWithoutOnePipeOrThing() {
        House x = rowOfValves(MOST_THINGS - 2, 1);
        for (int pipe = 0; pipe < MOST_THINGS - 1; pipe++) {
            x.run(pipe, true);
            x.due(NONE).way(0, 1);
            x.run(pipe, false);
        }
        for (int thing = 0; thing < MOST_THINGS; thing++) {
            x.bar(thing, true);
            x.due(NONE).way(0, 1);
            x.bar(thing, false);
        }
        x.due(0).way(0, 1);
    }

    @Sentence(promise = 8, says = ORDER)
    static void noneComesBeforeFull() {
        House x = fullOfWays();
        x.tank(false);
        x.due(NONE).way(0, MIXED_THINGS);
        x.due(NONE).way(MIXED_THINGS, 0);
        x.due(FULL).way(0, 1);
        x.bar(0, true);
        x.due(NONE).way(0, 1);
    }

    @Sentence(promise = 8, says = NO_WAY)
    static void noneLeavesEverythingAsItWas() {
        leavesAll(() -> {
            House x = mixed();
            x.tank(false);
            return x;
        }, x -> {
            x.due(NONE).way(0, MIXED_THINGS);
            x.due(NONE).way(MIXED_THINGS, 0);
        });
    }

    @Sentence(promise = 8, says = "FULL.")
    static void fullBehindTheLast() {
        House x = withWays(MOST_WAYS - 1);
        x.due(63).told(2);
        x.due(63).way(0, 1);
        x.due(FULL).way(0, 1);
        x.due(FULL).way(1, 0);
        x.due(FULL).way(0, EMPTY_TANK);
        x.due(64).told(2);
        x.due(WRONG).rest(64);
    }

    @Sentence(promise = 8, says = "FULL.")
    static void fullLeavesEverythingAsItWas() {
        leavesAll(Sentences::fullOfWays, x -> {
            x.due(FULL).way(0, 1);
            x.due(FULL).way(0, EMPTY_TANK);
        });
    }

    @Sentence(promise = 8, says = "FULL.")
    static void fullOfWaysAlone() {
        fullOfThings().due(MIXED_WAYS).way(0, 1);
        fullOfPipes().due(MIXED_WAYS).way(0, 1);
    }
}
