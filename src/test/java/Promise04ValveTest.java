/** The boundary cases of promise 4: valve. */
public final class Promise04ValveTest extends Sentences {
    public static void main(String[] args) {
        runAll(Promise04ValveTest.class);
    }

    @Sentence(promise = 4, says = "A valve: its number")
    static void theFirstAndTheLastNumber() {
        House x = new House();
        for (int i = 0; i < MOST_THINGS; i++) {
            x.due(i).valve();
        }
        x.dueTold(48, 0, 0, 0, 0, 0, 48);
    }

    @Sentence(promise = 4, says = "A valve: its number")
    static void theLastOneIsAValve() {
        House x = tanks(MOST_THINGS - 1);
        x.due(47).valve();
        x.due(WRONG).way(47, 47);
        x.pipe(0, 47, 1);
        x.pipe(47, 46, 1);
        x.due(0).way(0, 46);
        x.dueValves(0, 47);
    }

    @Sentence(promise = 4, says = "FULL.")
    static void fullBehindTheLast() {
        House valvesAlone = new House();
        for (int i = 0; i < MOST_THINGS; i++) {
            valvesAlone.valve();
        }
        valvesAlone.due(FULL).valve();
        House x = fullOfThings();
        x.due(48).told(0);
        x.due(FULL).valve();
        x.due(FULL).valve();
        x.due(48).told(0);
        x.due(false).bar(48, true);
        x.due(WRONG).pipe(48, 0, 1);
    }

    @Sentence(promise = 4, says = "FULL.")
    static void fullLeavesEverythingAsItWas() {
        leavesAll(Sentences::fullOfThings, x -> x.due(FULL).valve());
    }

    @Sentence(promise = 4, says = "FULL.")
    static void fullOfThingsAlone() {
        fullOfPipes().due(MIXED_THINGS).valve();
        fullOfWays().due(MIXED_THINGS).valve();
    }
}
