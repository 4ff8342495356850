/** The boundary cases of promise 15: told. */
public final class Promise15ToldTest extends Sentences {
    private static final String THINGS = "How many things there are (what = 0)";

    public static void main(String[] args) {
        runAll(Promise15ToldTest.class);
    }

    @Sentence(promise = 15, says = THINGS)
    static void fromNoThingsToTheMost() {
        House x = new House();
        for (int i = 0; i < MOST_THINGS; i++) {
            x.due(i).told(0);
            x.valve();
        }
        x.due(48).told(0);
        x.tank(true);
        x.due(48).told(0);
    }

    @Sentence(promise = 15, says = "pipes (1)")
    static void fromNoPipesToTheMost() {
        House x = tanks(2);
        for (int i = 0; i < MOST_PIPES; i++) {
            x.due(i).told(1);
            x.pipe(0, 1, 1);
        }
        x.due(96).told(1);
        x.pipe(0, 1, 1);
        x.due(96).told(1);
    }

    @Sentence(promise = 15, says = "ways (2)")
    static void fromNoWaysToTheMost() {
        House x = tanks(2);
        x.pipe(0, 1, 1);
        for (int i = 0; i < MOST_WAYS; i++) {
            x.due(i).told(2);
            x.way(0, 1);
        }
        x.due(64).told(2);
        x.way(0, 1);
        x.due(64).told(2);
    }

    @Sentence(promise = 15, says = "barred things (3)")
    static void fromNoBarredThingsToAll() {
        House x = fullOfThings();
        x.bar(7, false);
        for (int thing = 0; thing < MOST_THINGS; thing++) {
            x.due(thing).told(3);
            x.bar(thing, true);
            x.bar(thing, true);
        }
        x.due(48).told(3);
        x.bar(48, true);
        x.due(48).told(3);
        for (int thing = MOST_THINGS - 1; thing >= 0; thing--) {
            x.bar(thing, false);
            x.due(thing).told(3);
        }
    }

    @Sentence(promise = 15, says = "pipes that run (4)")
    static void fromNoPipeThatRunsToAll() {
        House x = tanks(2);
        for (int pipe = 0; pipe < MOST_PIPES; pipe++) {
            x.pipe(0, 1, 1);
            x.due(pipe).told(4);
            x.run(pipe, true);
        }
        x.due(96).told(4);
        x.run(96, true);
        x.run(0, true);
        x.due(96).told(4);
        for (int pipe = MOST_PIPES - 1; pipe >= 90; pipe--) {
            x.run(pipe, false);
            x.due(pipe).told(4);
        }
    }

    @Sentence(promise = 15, says = "empty tanks (5)")
    static void fromNoEmptyTankToAll() {
        House x = new House();
        for (int i = 0; i < MOST_THINGS; i++) {
            x.due(i).told(5);
            x.tank(true);
        }
        x.due(48).told(5);
        x.due(FULL).tank(true);
        x.due(48).told(5);
        House none = new House();
        none.tank(false);
        none.pump();
        none.valve();
        none.due(0).told(5);
        none.tank(true);
        none.bar(3, true);
        none.due(1).told(5);
    }

    @Sentence(promise = 15, says = "things of which no pipe is an end (6).")
    static void fromAllThingsWithoutAPipeToNone() {
        House x = new House();
        for (int i = 0; i < MOST_THINGS; i += 3) {
            x.tank(false);
            x.pump();
            x.valve();
            x.due(i + 3).told(6);
        }
        for (int thing = 0; thing < MOST_THINGS; thing += 2) {
            x.due(48 - thing).told(6);
            x.pipe(thing + 1, thing, 1);
        }
        x.due(0).told(6);
    }

    @Sentence(promise = 15, says = "things of which no pipe is an end (6).")
    static void aPipeMoreOrOneThatRunsOrIsRefusedChangesNothing() {
        House x = tanks(4);
        x.due(4).told(6);
        x.pipe(0, 1, 1);
        x.due(2).told(6);
        x.pipe(1, 0, 1);
        x.run(0, true);
        x.run(1, true);
        x.bar(0, true);
        x.due(2).told(6);
        x.due(NONE).pipe(2, 3, 0);
        x.due(NONE).pipe(2, 2, 1);
        x.due(WRONG).pipe(2, 4, 1);
        x.due(2).told(6);
        x.pipe(0, 2, 1);
        x.due(1).told(6);
    }

    @Sentence(promise = 15, says = "NONE for another what.")
    static void belowTheFirstAndBehindTheLast() {
        House x = mixed();
        x.dueTold(9, 12, 3, 1, 1, 1, 1);
        for (int what : outside(7)) {
            x.due(NONE).told(what);
        }
        x.due(NONE).told(8);
        x.due(NONE).told(9);
        x.due(NONE).told(10);
        House fresh = new House();
        for (int what : outside(7)) {
            fresh.due(NONE).told(what);
        }
    }

    @Sentence(promise = 15, says = "NONE for another what.")
    static void noneLeavesEverythingAsItWas() {
        leavesAllOfMixed(x -> {
            for (int what : outside(7)) {
                x.due(NONE).told(what);
            }
        });
    }

    @Sentence(promise = 15, says = THINGS)
    static void askingLeavesEverythingAsItWas() {
        leavesAll(Sentences::mixed, x -> x.dueTold(9, 12, 3, 1, 1, 1, 1));
    }
}
