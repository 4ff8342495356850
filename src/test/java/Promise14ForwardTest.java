/** The boundary cases of promise 14: forward. */
public final class Promise14ForwardTest extends Sentences {
    private static final String TOLD = "A pump's IN is a and its OUT b: true.";
    private static final String NO_PUMP = "False, refused, when it is no pump";
    private static final String NO_THING = "a or b no thing";
    private static final String BOTH_ONE = "both one";
    private static final String NOT_JOINED = "or not joined to it by a pipe each.";

    private static final int PUMP = 2;
    private static final int VALVE = 3;
    private static final int OTHER_PUMP = 4;
    private static final int LOOSE = 5;
    private static final int THINGS = 6;

    public static void main(String[] args) {
        runAll(Promise14ForwardTest.class);
    }

    /**
     * Tanks 0 and 1; pump 2 is joined to both of them and to valve 3, the valve to pump 4 and to
     * tank 1 too; valve 5 has no pipe.
     */
    private static House pumps() {
        House house = tanks(2);
        house.pump();
        house.valve();
        house.pump();
        house.valve();
        house.pipe(0, PUMP, 1);
        house.pipe(PUMP, 1, 2);
        house.pipe(VALVE, PUMP, 3);
        house.pipe(VALVE, OTHER_PUMP, 4);
        house.pipe(VALVE, 1, 5);
        return house;
    }

    private static House toldPumps() {
        House house = pumps();
        house.forward(PUMP, 0, 1);
        return house;
    }

    @Sentence(promise = 14, says = TOLD)
    static void everyTwoThatAreJoinedToIt() {
        int[] joined = {0, 1, VALVE};
        for (int a : joined) {
            for (int b : joined) {
                pumps().due(a != b).forward(PUMP, a, b);
            }
        }
    }

    @Sentence(promise = 14, says = TOLD)
    static void toldAgainAndTurned() {
        House x = pumps();
        x.due(true).forward(PUMP, 0, 1);
        x.due(true).forward(PUMP, 0, 1);
        x.due(0).way(0, 1);
        x.due(NONE).way(1, 0);
        x.due(true).forward(PUMP, 1, 0);
        x.due(NONE).way(0, 1);
        x.due(1).way(1, 0);
        x.duePipes(1, 1, 0);
        x.duePipes(0, 0, 1);
    }

    @Sentence(promise = 14, says = TOLD)
    static void theFirstAndTheLastThing() {
        House first = new House();
        first.pump();
        first.tank(false);
        first.tank(false);
        first.pipe(0, 1, 1);
        first.pipe(2, 0, 1);
        first.due(true).forward(0, 1, 2);
        first.due(0).way(1, 2);
        House last = tanks(MOST_THINGS - 1);
        last.pump();
        last.pipe(0, 47, 1);
        last.pipe(47, 46, 1);
        last.due(true).forward(47, 0, 46);
        last.due(0).way(0, 46);
        last.due(true).forward(47, 46, 0);
        last.due(1).way(46, 0);
        last.due(false).forward(48, 0, 46);
    }

    @Sentence(promise = 14, says = TOLD)
    static void onePumpIsAnothersInAndOut() {
        House x = tanks(2);
        x.pump();
        x.pump();
        x.pipe(0, 2, 1);
        x.pipe(2, 3, 1);
        x.pipe(3, 1, 1);
        x.due(true).forward(2, 0, 3);
        x.due(NONE).way(0, 1);
        x.due(true).forward(3, 2, 1);
        x.due(0).way(0, 1);
        x.duePipes(0, 0, 1, 2);
    }

    @Sentence(promise = 14, says = NO_PUMP)
    static void aTankAValveAndNoThingAreNoPumps() {
        House x = pumps();
        x.pipe(0, 1, 1);
        x.due(false).forward(0, PUMP, 1);
        x.due(false).forward(1, PUMP, VALVE);
        x.due(false).forward(VALVE, PUMP, 1);
        for (int none : outside(THINGS)) {
            x.due(false).forward(none, 0, 1);
            x.due(false).forward(none, none, none);
        }
        House fresh = tanks(2);
        fresh.due(false).forward(2, 0, 1);
        fresh.pump();
        fresh.pipe(0, 2, 1);
        fresh.pipe(1, 2, 1);
        fresh.due(true).forward(2, 0, 1);
    }

    @Sentence(promise = 14, says = NO_THING)
    static void noThingAsInOrOut() {
        House x = pumps();
        for (int none : outside(THINGS)) {
            x.due(false).forward(PUMP, none, 1);
            x.due(false).forward(PUMP, 0, none);
            x.due(false).forward(PUMP, none, none + 1);
        }
        x.due(NONE).way(0, 1);
    }

    @Sentence(promise = 14, says = NO_THING)
    static void noThingWhereNoThingIsTold() {
        House x = new House();
        x.pump();
        for (int none : outside(1)) {
            x.due(false).forward(0, none, 0);
            x.due(false).forward(0, 0, none);
            x.due(false).forward(0, none, none);
        }
    }

    @Sentence(promise = 14, says = BOTH_ONE)
    static void bothAreOne() {
        House x = pumps();
        x.pipe(0, PUMP, 1);
        for (int thing = 0; thing < THINGS; thing++) {
            x.due(false).forward(PUMP, thing, thing);
        }
    }

    @Sentence(promise = 14, says = NOT_JOINED)
    static void oneOrBothAreNotJoined() {
        House x = pumps();
        x.due(false).forward(PUMP, 0, OTHER_PUMP);
        x.due(false).forward(PUMP, OTHER_PUMP, 0);
        x.due(false).forward(PUMP, 0, LOOSE);
        x.due(false).forward(PUMP, LOOSE, 1);
        x.due(false).forward(PUMP, LOOSE, OTHER_PUMP);
        x.due(false).forward(OTHER_PUMP, VALVE, 1);
        x.due(false).forward(OTHER_PUMP, 1, VALVE);
        x.due(false).forward(OTHER_PUMP, 0, 1);
        x.pipe(OTHER_PUMP, 1, 1);
        x.due(true).forward(OTHER_PUMP, VALVE, 1);
    }

    @Sentence(promise = 14, says = NOT_JOINED)
    static void aPumpIsNotJoinedToItself() {
        House x = pumps();
        x.due(false).forward(PUMP, PUMP, 1);
        x.due(false).forward(PUMP, 0, PUMP);
        x.due(false).forward(PUMP, PUMP, PUMP);
    }

    @Sentence(promise = 14, says = NOT_JOINED)
    static void theLastPipeJoinsTooAndARefusedOneDoesNot() {
        House x = tanks(3);
        int pump = x.pump();
        x.pipe(0, pump, 1);
        for (int pipe = 1; pipe < MOST_PIPES - 1; pipe++) {
            x.pipe(0, 1, 1);
        }
        x.due(false).forward(pump, 0, 1);
        x.due(NONE).pipe(pump, 1, 0);
        x.due(false).forward(pump, 0, 1);
        x.due(95).pipe(pump, 1, 1);
        x.due(true).forward(pump, 0, 1);
        x.due(FULL).pipe(pump, 2, 1);
        x.due(false).forward(pump, 0, 2);
    }

    @Sentence(promise = 14, says = NOT_JOINED)
    static void barredThingsAndPipesThatRunJoinAsWell() {
        House x = pumps();
        x.bar(PUMP, true);
        x.bar(0, true);
        x.run(1, true);
        x.due(true).forward(PUMP, 0, 1);
        x.due(NONE).way(0, 1);
        x.bar(PUMP, false);
        x.bar(0, false);
        x.run(1, false);
        x.due(0).way(0, 1);
        x.duePipes(0, 0, 1);
    }

    @Sentence(promise = 14, says = "False, refused")
    static void refusedLeavesEverythingAsItWas() {
        leavesAll(Promise14ForwardTest::toldPumps, x -> {
            x.due(false).forward(VALVE, PUMP, 1);
            x.due(false).forward(0, PUMP, 1);
            for (int none : outside(THINGS)) {
                x.due(false).forward(none, 0, 1);
                x.due(false).forward(PUMP, none, 0);
                x.due(false).forward(PUMP, 1, none);
            }
            x.due(false).forward(PUMP, 1, 1);
            x.due(false).forward(PUMP, 1, LOOSE);
            x.due(false).forward(PUMP, LOOSE, 0);
            x.due(false).forward(OTHER_PUMP, VALVE, 1);
        });
        leavesAllOfMixed(x -> {
            x.due(false).forward(5, 3, 1);
            x.due(false).forward(3, 5, 5);
            x.due(false).forward(3, 5, 8);
            x.due(false).forward(3, 8, 0);
            x.due(false).forward(4, 0, 7);
            x.due(false).forward(MIXED_THINGS, 0, 1);
        });
    }

    @Sentence(promise = 14, says = "False, refused")
    static void eachRefusedOneLeavesInAndOutAsTheyWere() {
        int[][] refused = {{1, 1}, {0, 0}, {1, LOOSE}, {LOOSE, 0}, {1, -1}, {-1, 0}, {VALVE, OTHER_PUMP},
            {1, LEAST_INT}, {GREATEST_INT, 0}, {VALVE, PUMP}, {PUMP, 0}};
        for (int[] ends : refused) {
            House x = toldPumps();
            x.due(false).forward(PUMP, ends[0], ends[1]);
            x.due(0).way(0, 1);
            x.duePipes(0, 0, 1);
            x.due(NONE).way(1, 0);
        }
    }

    @Sentence(promise = 14, says = "False, refused")
    static void refusedLeavesANewPumpUntold() {
        leavesAll(Promise14ForwardTest::pumps, x -> {
            x.due(false).forward(PUMP, 0, 0);
            x.due(false).forward(PUMP, 0, LOOSE);
            x.due(false).forward(PUMP, LOOSE, 1);
            x.due(false).forward(PUMP, 0, -1);
            x.due(false).forward(PUMP, THINGS, 1);
        });
    }
}
