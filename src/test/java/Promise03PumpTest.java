/** The boundary cases of promise 3: pump. */
public final class Promise03PumpTest extends Sentences {
    public static void main(String[] args) {
        runAll(Promise03PumpTest.class);
    }

    @Sentence(promise = 3, says = "its number")
    static void theFirstAndTheLastNumber() {
        House x = new House();
        for (int i = 0; i < MOST_THINGS; i++) {
            x.due(i).pump();
        }
        x.dueTold(48, 0, 0, 0, 0, 0, 48);
    }

    @Sentence(promise = 3, says = "A pump, whose IN and OUT are not told yet: its number")
    static void theLastOneIsAPump() {
        House x = tanks(MOST_THINGS - 1);
        x.due(47).pump();
        x.due(WRONG).way(47, 0);
        x.pipe(0, 47, 1);
        x.pipe(47, 46, 1);
        x.due(NONE).way(0, 46);
        x.due(true).forward(47, 0, 46);
        x.due(0).way(0, 46);
        x.dueValves(0);
    }

    @Sentence(promise = 3, says = "whose IN and OUT are not told yet")
    static void nothingPassesANewOne() {
        House x = tanks(3);
        int pump = x.pump();
        for (int tank = 0; tank < 3; tank++) {
            x.pipe(tank, pump, 1);
        }
        for (int from = 0; from < 3; from++) {
            for (int to = 0; to < 3; to++) {
                x.due(from == to ? SAME : NONE).way(from, to);
            }
        }
    }

    @Sentence(promise = 3, says = "whose IN and OUT are not told yet")
    static void anotherPumpsAreNotItsOwn() {
        House x = tanks(2);
        int old = x.pump();
        x.pipe(0, old, 1);
        x.pipe(old, 1, 1);
        x.forward(old, 0, 1);
        int pump = x.pump();
        x.pipe(0, pump, 1);
        x.pipe(pump, 1, 1);
        x.bar(old, true);
        x.due(NONE).way(0, 1);
        x.due(true).forward(pump, 0, 1);
        x.due(0).way(0, 1);
    }

    @Sentence(promise = 3, says = "FULL.")
    static void fullBehindTheLast() {
        House pumpsAlone = new House();
        for (int i = 0; i < MOST_THINGS; i++) {
            pumpsAlone.pump();
        }
        pumpsAlone.due(FULL).pump();
        House x = fullOfThings();
        x.due(48).told(0);
        x.due(FULL).pump();
        x.due(FULL).pump();
        x.due(48).told(0);
        x.due(false).bar(48, true);
        x.due(WRONG).pipe(48, 0, 1);
        x.due(false).forward(48, 0, 1);
    }

    @Sentence(promise = 3, says = "FULL.")
    static void fullLeavesEverythingAsItWas() {
        leavesAll(Sentences::fullOfThings, x -> x.due(FULL).pump());
    }

    @Sentence(promise = 3, says = "FULL.")
    static void fullOfThingsAlone() {
        fullOfPipes().due(MIXED_THINGS).pump();
        fullOfWays().due(MIXED_THINGS).pump();
    }
}
