/** The boundary cases of promise 13: two. */
public final class Promise13TwoTest extends Sentences {
    private static final String FINDS = "Finds the least way from a to b, and the least one from c to d"
            + " among those that have no pipe, pump or valve in common with it";
    private static final String NUMBER = "the number of the second one, the first one's being one less.";
    private static final String ENDS = "WRONG, SAME, EMPTY of the first, then of the second";
    private static final String NOT_THERE = "NONE when one of both is not there";
    private static final String NOT_BOTH = "FULL when not both can be kept.";
    private static final String NOTHING_KEPT = "Nothing is kept then.";

    private static final int EMPTY_TANK = 4;
    private static final int PUMP = 5;
    private static final int VALVE = 6;
    private static final int THINGS = 7;

    public static void main(String[] args) {
        runAll(Promise13TwoTest.class);
    }

    /** Pipe 0 from tank 0 to tank 1, pipe 1 from tank 2 to tank 3; an empty tank, a pump, a valve. */
    private static House twoPipes() {
        House house = tanks(4);
        house.tank(true);
        house.pump();
        house.valve();
        house.pipe(0, 1, 5);
        house.pipe(2, 3, 6);
        return house;
    }

    private static House twoPipesWithWays(int many) {
        House house = twoPipes();
        for (int i = 0; i < many; i++) {
            house.way(0, 1);
        }
        return house;
    }

    /** One pump or valve between two tanks, with two pipes to each of them. */
    private static House twoPipesEach(boolean isPump) {
        House house = tanks(2);
        int thing = isPump ? house.pump() : house.valve();
        house.pipe(0, thing, 1);
        house.pipe(0, thing, 1);
        house.pipe(thing, 1, 1);
        house.pipe(thing, 1, 1);
        house.forward(thing, 0, 1);
        return house;
    }

    @Sentence(promise = 13, says = NUMBER)
    static void theFirstAndTheLastNumbers() {
        House x = twoPipes();
        for (int second = 1; second < MOST_WAYS; second += 2) {
            x.due(second).two(0, 1, 2, 3);
        }
        x.due(64).told(2);
        x.duePipes(0, 0);
        x.duePipes(1, 1);
        x.duePipes(62, 0);
        x.duePipes(63, 1);
        x.due(FULL).two(0, 1, 2, 3);
    }

    @Sentence(promise = 13, says = FINDS)
    static void noPipeInCommon() {
        House x = tanks(2);
        x.pipe(0, 1, 1);
        x.due(NONE).two(0, 1, 0, 1);
        x.due(NONE).two(0, 1, 1, 0);
        x.due(0).told(2);
        x.pipe(0, 1, 7);
        x.due(1).two(0, 1, 0, 1);
        x.duePipes(0, 0);
        x.duePipes(1, 1);
    }

    @Sentence(promise = 13, says = FINDS)
    static void noPumpInCommon() {
        House x = twoPipesEach(true);
        x.due(NONE).two(0, 1, 0, 1);
        x.due(0).told(2);
        x.due(0).way(0, 1);
    }

    @Sentence(promise = 13, says = FINDS)
    static void noValveInCommon() {
        House x = twoPipesEach(false);
        x.due(NONE).two(0, 1, 0, 1);
        x.due(NONE).two(0, 1, 1, 0);
        x.due(0).told(2);
        x.due(0).way(0, 1);
    }

    @Sentence(promise = 13, says = "no pipe, pump or valve in common with it")
    static void tanksMayBeInCommon() {
        House x = twoPipes();
        x.pipe(1, 2, 1);
        x.due(1).two(0, 1, 1, 2);
        x.duePipes(0, 0);
        x.duePipes(1, 2);
        x.due(3).two(1, 2, 2, 3);
        x.duePipes(2, 2);
        x.duePipes(3, 1);
    }

    @Sentence(promise = 13, says = FINDS)
    static void theFirstIsTheLeastThoughItTakesAllFromTheSecond() {
        House x = tanks(2);
        int one = x.valve();
        int another = x.valve();
        x.pipe(0, one, 1);
        x.pipe(one, another, 1);
        x.pipe(another, 1, 1);
        x.pipe(one, 1, 3);
        x.pipe(0, another, 3);
        x.due(NONE).two(0, 1, 0, 1);
        x.due(0).told(2);
        x.pipe(one, 1, 2);
        x.due(1).two(0, 1, 0, 1);
        x.duePipes(0, 0, 5);
        x.duePipes(1, 4, 2);
    }

    @Sentence(promise = 13, says = FINDS)
    static void theFirstKeepsFromTheSecondForThisCallAlone() {
        House x = tanks(2);
        x.pipe(0, 1, 1);
        x.pipe(0, 1, 2);
        x.due(1).two(0, 1, 0, 1);
        x.due(3).two(0, 1, 0, 1);
        x.duePipes(2, 0);
        x.duePipes(3, 1);
        x.due(4).way(0, 1);
        x.duePipes(4, 0);
    }

    @Sentence(promise = 13, says = ENDS)
    static void noTankAtAnyOfTheFour() {
        House x = twoPipes();
        for (int none : outside(THINGS)) {
            x.due(WRONG).two(none, 1, 2, 3);
            x.due(WRONG).two(0, none, 2, 3);
            x.due(WRONG).two(0, 1, none, 3);
            x.due(WRONG).two(0, 1, 2, none);
            x.due(WRONG).two(none, none, none, none);
        }
        for (int thing = PUMP; thing <= VALVE; thing++) {
            x.due(WRONG).two(thing, 1, 2, 3);
            x.due(WRONG).two(0, thing, 2, 3);
            x.due(WRONG).two(0, 1, thing, 3);
            x.due(WRONG).two(0, 1, 2, thing);
        }
        x.due(0).told(2);
        x.due(1).two(0, 1, 2, 3);
    }

    @Sentence(promise = 13, says = ENDS)
    static void sameOfEach() {
        House x = twoPipes();
        x.due(SAME).two(0, 0, 2, 3);
        x.due(SAME).two(0, 1, 2, 2);
        x.due(SAME).two(0, 0, 0, 0);
        x.due(0).told(2);
    }

    @Sentence(promise = 13, says = ENDS)
    static void emptyOfEach() {
        House x = twoPipes();
        x.pipe(EMPTY_TANK, 0, 1);
        x.due(EMPTY).two(EMPTY_TANK, 0, 2, 3);
        x.due(EMPTY).two(0, 1, EMPTY_TANK, 0);
        x.due(0).told(2);
        x.due(1).two(0, EMPTY_TANK, 2, 3);
        x.due(3).two(0, 1, 0, EMPTY_TANK);
    }

    @Sentence(promise = 13, says = ENDS)
    static void wrongThenSameThenEmptyOfTheFirst() {
        House x = twoPipes();
        x.due(WRONG).two(VALVE, VALVE, 2, 3);
        x.due(WRONG).two(EMPTY_TANK, PUMP, 2, 3);
        x.due(WRONG).two(EMPTY_TANK, 99, 2, 3);
        x.due(SAME).two(EMPTY_TANK, EMPTY_TANK, 2, 3);
    }

    @Sentence(promise = 13, says = ENDS)
    static void wrongThenSameThenEmptyOfTheSecond() {
        House x = twoPipes();
        x.due(WRONG).two(0, 1, VALVE, VALVE);
        x.due(WRONG).two(0, 1, EMPTY_TANK, PUMP);
        x.due(WRONG).two(0, 1, EMPTY_TANK, 99);
        x.due(SAME).two(0, 1, EMPTY_TANK, EMPTY_TANK);
    }

    @Sentence(promise = 13, says = ENDS)
    static void whatRefusesTheFirstComesBeforeWhatRefusesTheSecond() {
        House x = twoPipes();
        x.due(WRONG).two(0, VALVE, 2, 2);
        x.due(WRONG).two(0, VALVE, EMPTY_TANK, 3);
        x.due(SAME).two(0, 0, 2, VALVE);
        x.due(SAME).two(0, 0, -1, 3);
        x.due(SAME).two(0, 0, EMPTY_TANK, 3);
        x.due(EMPTY).two(EMPTY_TANK, 0, PUMP, 3);
        x.due(EMPTY).two(EMPTY_TANK, 0, 2, GREATEST_INT);
        x.due(EMPTY).two(EMPTY_TANK, 0, 2, 2);
        x.due(0).told(2);
    }

    @Sentence(promise = 13, says = "WRONG, SAME, EMPTY of the first, then of the second; NONE when")
    static void theEndsComeBeforeNone() {
        House x = twoPipes();
        x.due(NONE).two(0, 3, 2, 3);
        x.due(WRONG).two(0, 3, 2, VALVE);
        x.due(WRONG).two(0, 3, LEAST_INT, 3);
        x.due(SAME).two(0, 3, 2, 2);
        x.due(EMPTY).two(0, 3, EMPTY_TANK, 2);
        x.due(EMPTY).two(EMPTY_TANK, 3, 2, 3);
    }

    @Sentence(promise = 13, says = ENDS)
    static void theEndsComeBeforeFull() {
        House x = twoPipesWithWays(MOST_WAYS);
        x.due(FULL).two(0, 1, 2, 3);
        x.due(WRONG).two(-1, 1, 2, 3);
        x.due(WRONG).two(0, 1, 2, THINGS);
        x.due(SAME).two(0, 0, 2, 3);
        x.due(SAME).two(0, 1, 2, 2);
        x.due(EMPTY).two(EMPTY_TANK, 1, 2, 3);
        x.due(EMPTY).two(0, 1, EMPTY_TANK, 3);
    }

    @Sentence(promise = 13, says = NOT_THERE)
    static void theFirstTheSecondOrBothAreNotThere() {
        House x = twoPipes();
        x.due(NONE).two(0, 2, 2, 3);
        x.due(NONE).two(0, 1, 1, 3);
        x.due(NONE).two(0, 2, 1, 3);
        x.due(0).told(2);
        x.bar(3, true);
        x.due(NONE).two(0, 1, 2, 3);
        x.due(NONE).two(2, 3, 0, 1);
        x.bar(3, false);
        x.run(0, true);
        x.due(NONE).two(0, 1, 2, 3);
        x.due(NONE).two(2, 3, 0, 1);
        x.run(0, false);
        x.due(1).two(0, 1, 2, 3);
    }

    @Sentence(promise = 13, says = "NONE when one of both is not there; FULL when not both can be kept.")
    static void noneComesBeforeFull() {
        for (int ways = MOST_WAYS - 1; ways <= MOST_WAYS; ways++) {
            House x = twoPipesWithWays(ways);
            x.due(NONE).two(0, 2, 2, 3);
            x.due(NONE).two(0, 1, 0, 1);
            x.due(NONE).two(0, 1, 1, 3);
            x.due(ways).told(2);
        }
    }

    @Sentence(promise = 13, says = NOT_BOTH)
    static void roomForTwoForOneAndForNone() {
        House two = twoPipesWithWays(MOST_WAYS - 2);
        two.due(63).two(0, 1, 2, 3);
        two.due(64).told(2);
        House one = twoPipesWithWays(MOST_WAYS - 1);
        one.due(FULL).two(0, 1, 2, 3);
        one.due(FULL).two(2, 3, 0, 1);
        one.due(63).told(2);
        one.due(WRONG).rest(63);
        one.due(63).way(2, 3);
        one.due(6).rest(63);
        House none = twoPipesWithWays(MOST_WAYS);
        none.due(FULL).two(0, 1, 2, 3);
        none.due(64).told(2);
        none.due(WRONG).rest(64);
        none.due(WRONG).rest(65);
    }

    @Sentence(promise = 13, says = NOTHING_KEPT)
    static void refusedEndsLeaveEverythingAsItWas() {
        leavesAll(Promise13TwoTest::twoPipes, x -> {
            x.due(WRONG).two(0, 1, 2, VALVE);
            x.due(WRONG).two(PUMP, 1, 2, 3);
            x.due(WRONG).two(0, 1, -1, 3);
            x.due(WRONG).two(0, 1, 2, GREATEST_INT);
            x.due(SAME).two(0, 0, 2, 3);
            x.due(SAME).two(0, 1, 2, 2);
            x.due(EMPTY).two(EMPTY_TANK, 1, 2, 3);
            x.due(EMPTY).two(0, 1, EMPTY_TANK, 3);
        });
        leavesAllOfMixed(x -> {
            x.due(WRONG).two(0, 1, 0, 5);
            x.due(WRONG).two(3, 1, 0, 1);
            x.due(SAME).two(0, 0, 1, 0);
            x.due(SAME).two(0, 1, 1, 1);
            x.due(EMPTY).two(2, 1, 1, 0);
            x.due(EMPTY).two(0, 1, 2, 0);
        });
    }

    @Sentence(promise = 13, says = NOTHING_KEPT)
    static void noneLeavesEverythingAsItWas() {
        leavesAll(Promise13TwoTest::twoPipes, x -> {
            x.due(NONE).two(0, 2, 2, 3);
            x.due(NONE).two(0, 1, 1, 3);
        });
        leavesAll(() -> twoPipesEach(true), x -> x.due(NONE).two(0, 1, 0, 1));
        leavesAll(() -> twoPipesEach(false), x -> x.due(NONE).two(0, 1, 0, 1));
    }

    @Sentence(promise = 13, says = NOTHING_KEPT)
    static void fullLeavesEverythingAsItWas() {
        leavesAll(() -> twoPipesWithWays(MOST_WAYS - 1), x -> x.due(FULL).two(0, 1, 2, 3));
        leavesAll(() -> twoPipesWithWays(MOST_WAYS), x -> x.due(FULL).two(0, 1, 2, 3));
    }
}
