/** The boundary cases of promise 7: bar. */
public final class Promise07BarTest extends Sentences {
    private static final String IS_NEW =
            "A thing is barred from now on, or is not: whether that is new.";
    private static final String NO_THING = "False when there is no such thing.";

    public static void main(String[] args) {
        runAll(Promise07BarTest.class);
    }

    @Sentence(promise = 7, says = IS_NEW)
    static void aNewThingIsNotBarred() {
        House x = new House();
        for (int thing = 0; thing < MOST_THINGS; thing += 3) {
            x.tank(false);
            x.due(false).bar(thing, false);
            x.pump();
            x.due(false).bar(thing + 1, false);
            x.valve();
            x.due(false).bar(thing + 2, false);
        }
        x.due(0).told(3);
    }

    @Sentence(promise = 7, says = IS_NEW)
    static void onAndOffAreNewOnce() {
        House x = fullOfThings();
        int[] firstAndLast = {0, MOST_THINGS - 1};
        for (int thing : firstAndLast) {
            x.due(1).told(3);
            x.due(true).bar(thing, true);
            x.due(2).told(3);
            x.due(false).bar(thing, true);
            x.due(2).told(3);
            x.due(true).bar(thing, false);
            x.due(1).told(3);
            x.due(false).bar(thing, false);
            x.due(1).told(3);
        }
    }

    @Sentence(promise = 7, says = IS_NEW)
    static void allThingsAtOnce() {
        House x = tanks(MOST_THINGS);
        x.pipe(46, 47, 1);
        for (int thing = 0; thing < MOST_THINGS; thing++) {
            x.due(true).bar(thing, true);
        }
        x.due(48).told(3);
        x.due(NONE).way(46, 47);
        x.bar(46, false);
        x.due(NONE).way(46, 47);
        x.bar(47, false);
        x.due(0).way(46, 47);
    }

    @Sentence(promise = 7, says = "A thing is barred from now on, or is not")
    static void fromNowOnAndNotBefore() {
        House x = rowOfValves(1, 1);
        x.due(0).way(0, 1);
        x.bar(2, true);
        x.due(NONE).way(0, 1);
        x.duePipes(0, 0, 1);
        x.dueValves(0, 2);
        x.bar(2, false);
        x.due(1).way(0, 1);
    }

    @Sentence(promise = 7, says = IS_NEW)
    static void whatIsNotNewChangesNothing() {
        leavesAll(Sentences::mixed, x -> {
            x.due(false).bar(7, true);
            x.due(false).bar(0, false);
            x.due(false).bar(8, false);
        });
    }

    @Sentence(promise = 7, says = NO_THING)
    static void noSuchThing() {
        House x = mixed();
        for (int none : outside(MIXED_THINGS)) {
            x.due(false).bar(none, true);
            x.due(false).bar(none, false);
        }
        x.due(1).told(3);
        x.due(true).bar(MIXED_THINGS - 1, true);
        x.due(false).bar(MIXED_THINGS, true);
        x.due(2).told(3);
    }

    @Sentence(promise = 7, says = NO_THING)
    static void noThingBehindTheLastThereCanBe() {
        House x = fullOfThings();
        for (int none : outside(MOST_THINGS)) {
            x.due(false).bar(none, true);
        }
        x.due(1).told(3);
        x.due(true).bar(47, true);
    }

    @Sentence(promise = 7, says = NO_THING)
    static void noSuchThingLeavesEverythingAsItWas() {
        leavesAllOfMixed(x -> {
            for (int none : outside(MIXED_THINGS)) {
                x.due(false).bar(none, true);
            }
        });
        leavesAll(Sentences::fullOfThings, x -> {
            for (int none : outside(MOST_THINGS)) {
                x.due(false).bar(none, true);
            }
        });
    }
}
