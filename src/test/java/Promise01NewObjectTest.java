/** The boundary cases of promise 1: nothing is there yet. */
public final class Promise01NewObjectTest extends Sentences {
    private static final String NOTHING = "No things, no pipes, no ways.";

    public static void main(String[] args) {
        runAll(Promise01NewObjectTest.class);
    }

    @Sentence(promise = 1, says = NOTHING)
    static void everyCountIsZero() {
        new House().dueTold(0, 0, 0, 0, 0, 0, 0);
    }

    @Sentence(promise = 1, says = "No things")
    static void noNumberIsAThing() {
        House x = new House();
        for (int thing : outside(0)) {
            x.due(WRONG).pipe(thing, thing + 1, 1);
            x.due(WRONG).pipe(thing, thing, 1);
            x.due(false).bar(thing, true);
            x.due(false).bar(thing, false);
            x.due(WRONG).way(thing, thing + 1);
            x.due(WRONG).way(thing, thing);
            x.due(WRONG).two(thing, thing + 1, thing, thing + 1);
            x.due(WRONG).two(thing, thing, thing, thing);
            x.due(false).forward(thing, thing + 1, thing + 2);
            x.due(false).forward(thing, thing, thing);
        }
        x.dueTold(0, 0, 0, 0, 0, 0, 0);
    }

    @Sentence(promise = 1, says = "no pipes")
    static void noNumberIsAPipe() {
        House x = tanks(2);
        int pump = x.pump();
        for (int pipe : outside(0)) {
            x.due(false).run(pipe, true);
            x.due(false).run(pipe, false);
        }
        x.due(NONE).way(0, 1);
        x.due(false).forward(pump, 0, 1);
        x.dueTold(3, 0, 0, 0, 0, 0, 3);
    }

    @Sentence(promise = 1, says = "no ways.")
    static void noNumberIsAWay() {
        House x = tanks(2);
        x.pipe(0, 1, 1);
        for (int way : outside(0)) {
            x.due(WRONG).rest(way);
            x.due(WRONG).pipeOf(way, 0);
            x.due(WRONG).valveOf(way, 0);
            x.due(WRONG).blow(way, 0);
            x.due(WRONG).other(way, 0);
        }
        x.dueTold(2, 1, 0, 0, 0, 0, 0);
    }

    @Sentence(promise = 1, says = NOTHING)
    static void theFirstOfEachIsNumberZero() {
        new House().due(0).tank(false);
        new House().due(0).tank(true);
        new House().due(0).pump();
        new House().due(0).valve();
        House x = tanks(2);
        x.due(0).pipe(1, 0, 1);
        x.due(0).way(0, 1);
    }

    @Sentence(promise = 1, says = NOTHING)
    static void anotherObjectsThingsAreNotThere() {
        House full = fullOfThings();
        House x = new House();
        x.dueTold(0, 0, 0, 0, 0, 0, 0);
        x.due(WRONG).pipe(0, 1, 1);
        x.due(false).run(0, true);
        x.due(WRONG).rest(0);
        x.due(0).tank(false);
        full.due(48).told(0);
        full.due(FULL).tank(false);
    }

    @Sentence(promise = 1, says = NOTHING)
    static void refusedCallsLeaveItNew() {
        leavesAll(House::new, x -> {
            x.due(WRONG).pipe(0, 1, 1);
            x.due(false).run(0, true);
            x.due(false).bar(0, true);
            x.due(WRONG).way(0, 1);
            x.due(WRONG).pipeOf(0, 0);
            x.due(WRONG).valveOf(0, 0);
            x.due(WRONG).rest(0);
            x.due(WRONG).other(0, 0);
            x.due(WRONG).two(0, 1, 2, 3);
            x.due(false).forward(0, 1, 2);
            x.due(NONE).told(7);
            x.due(WRONG).blow(0, 0);
        });
    }
}
