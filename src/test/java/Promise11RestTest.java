/** The boundary cases of promise 11: rest. */
public final class Promise11RestTest extends Sentences {
    private static final String LITRES = "The litres in the pipes of a way";

    public static void main(String[] args) {
        runAll(Promise11RestTest.class);
    }

    @Sentence(promise = 11, says = LITRES)
    static void theFewestThereCanBe() {
        House x = tanks(2);
        x.pipe(0, 1, 1);
        x.way(0, 1);
        x.due(1).rest(0);
    }

    @Sentence(promise = 11, says = LITRES)
    static void theMostThereCanBe() {
        House x = rowOfValves(MOST_THINGS - 2, MOST_LITRES);
        x.way(0, 1);
        x.way(1, 0);
        x.due(47_000_000_000L).rest(0);
        x.due(47_000_000_000L).rest(1);
    }

    @Sentence(promise = 11, says = LITRES)
    static void moreThanAnIntHolds() {
        House three = rowOfValves(2, MOST_LITRES);
        three.way(0, 1);
        three.due(3_000_000_000L).rest(0);
        House five = rowOfValves(4, MOST_LITRES);
        five.way(0, 1);
        five.due(5_000_000_000L).rest(0);
    }

    @Sentence(promise = 11, says = LITRES)
    static void theFirstAndTheLastWay() {
        House x = fullOfWays();
        x.due(9).rest(0);
        x.due(21).rest(63);
        x.due(WRONG).rest(64);
    }

    @Sentence(promise = 11, says = "WRONG.")
    static void noSuchWay() {
        House x = mixed();
        x.due(21).rest(MIXED_WAYS - 1);
        for (int none : outside(MIXED_WAYS)) {
            x.due(WRONG).rest(none);
        }
        House full = fullOfWays();
        for (int none : outside(MOST_WAYS)) {
            full.due(WRONG).rest(none);
        }
    }

    @Sentence(promise = 11, says = "WRONG.")
    static void wrongLeavesEverythingAsItWas() {
        leavesAllOfMixed(x -> {
            for (int none : outside(MIXED_WAYS)) {
                x.due(WRONG).rest(none);
            }
        });
    }
}
