/** The boundary cases of promise 2: tank. */
public final class Promise02TankTest extends Sentences {
    private static final String NUMBER = "A tank, empty or not: its number";

    public static void main(String[] args) {
        runAll(Promise02TankTest.class);
    }

    @Sentence(promise = 2, says = NUMBER)
    static void theFirstAndTheLastNumber() {
        House x = new House();
        for (int i = 0; i < MOST_THINGS; i++) {
            x.due(i).tank(i % 2 == 1);
        }
        x.due(48).told(0);
        x.due(24).told(5);
    }

    @Sentence(promise = 2, says = NUMBER)
    static void theLastOneIsATank() {
        House x = new House();
        for (int i = 0; i < MOST_THINGS - 1; i++) {
            x.tank(false);
        }
        x.due(47).tank(true);
        x.due(SAME).way(47, 47);
        x.due(EMPTY).way(47, 0);
        x.due(0).pipe(0, 47, 1);
        x.due(0).way(0, 47);
    }

    @Sentence(promise = 2, says = "empty or not")
    static void anEmptyOneGivesNothing() {
        House x = new House();
        x.due(0).tank(true);
        x.due(1).told(5);
        x.due(1).tank(false);
        x.due(1).told(5);
        x.pipe(0, 1, 1);
        x.due(EMPTY).way(0, 1);
        x.due(0).way(1, 0);
    }

    @Sentence(promise = 2, says = "FULL.")
    static void fullBehindTheLast() {
        House tanksAlone = tanks(MOST_THINGS);
        tanksAlone.due(FULL).tank(false);
        tanksAlone.due(FULL).tank(true);
        House x = fullOfThings();
        x.due(48).told(0);
        x.due(FULL).tank(false);
        x.due(FULL).tank(true);
        x.due(FULL).tank(false);
        x.due(48).told(0);
        x.due(false).bar(48, true);
        x.due(WRONG).pipe(0, 48, 1);
        x.due(WRONG).way(0, 48);
    }

    @Sentence(promise = 2, says = "FULL.")
    static void fullLeavesEverythingAsItWas() {
        leavesAll(Sentences::fullOfThings, x -> {
            x.due(FULL).tank(true);
            x.due(FULL).tank(false);
        });
    }

    @Sentence(promise = 2, says = "FULL.")
    static void fullOfThingsAlone() {
        fullOfPipes().due(MIXED_THINGS).tank(true);
        fullOfWays().due(MIXED_THINGS).tank(false);
    }
}
