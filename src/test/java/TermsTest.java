/** The boundary cases of the document's terms, which belong to the promises too. */
public final class TermsTest extends Sentences {
    private static final String THINGS = "THINGS are tanks, pumps and valves, numbered together from 0 in"
            + " the order in which they came, at most 48;";
    private static final String PIPES = "PIPES, numbered from 0, at most 96, join two things each and hold"
            + " some litres.";
    private static final String PUMP = "A pump passes liquid from one thing, its IN, to another one, its"
            + " OUT, once they are told, and never otherwise;";
    private static final String WAY = "A WAY from one tank to another one is a row of pipes, one behind"
            + " the other:";
    private static final String FEWEST_LITRES = "THE LEAST way has the fewest litres in its pipes (its"
            + " REST);";
    private static final String FEWEST_VALVES = "of several the one with the fewest valves;";
    private static final String LESSER_PIPE = "of these the one whose pipe has the lesser number where the"
            + " rows differ first.";
    private static final String KEPT = "WAYS that are found are kept as they are, numbered from 0 in the"
            + " order in which they were found, at most 64, also when something is barred later or runs.";
    private static final String WRONG_FIRST = "Answers that refuse: WRONG when there is no such thing, pipe"
            + " or way, or a thing of that kind is meant; then what a call tells besides.";

    public static void main(String[] args) {
        runAll(TermsTest.class);
    }

    @Sentence(promise = {2, 3, 4}, in = "Terms", says = THINGS)
    static void thingsOfAllKindsAreNumberedTogether() {
        House x = new House();
        for (int i = 0; i < MOST_THINGS; i += 4) {
            x.due(i).valve();
            x.due(i + 1).tank(false);
            x.due(i + 2).pump();
            x.due(i + 3).tank(true);
        }
        x.due(48).told(0);
    }

    @Sentence(promise = {2, 3, 4}, in = "Terms", says = THINGS)
    static void aRefusedThingTakesNoNumber() {
        House x = new House();
        for (int i = 0; i < MOST_THINGS - 1; i++) {
            x.pump();
        }
        x.due(47).valve();
        x.due(FULL).valve();
        x.due(FULL).pump();
        x.due(FULL).tank(false);
        x.due(FULL).tank(true);
        x.due(48).told(0);
        x.due(0).told(5);
    }

    @Sentence(promise = 5, in = "Terms", says = PIPES)
    static void pipesAreNumberedInTheOrderInWhichTheyCame() {
        House x = tanks(3);
        x.due(0).pipe(2, 1, 1);
        x.due(WRONG).pipe(0, 3, 1);
        x.due(NONE).pipe(0, 0, 1);
        x.due(NONE).pipe(0, 1, 0);
        x.due(1).pipe(0, 1, 1);
        for (int i = 2; i < MOST_PIPES; i++) {
            x.due(i).pipe(0, 1, 1);
        }
        x.due(FULL).pipe(0, 1, 1);
        x.due(96).told(1);
    }

    @Sentence(promise = {5, 8}, in = "Terms", says = PIPES)
    static void theLastOfTheMostPipesAreOnAWayToo() {
        House x = tanks(2);
        for (int i = 0; i < MOST_THINGS - 2; i++) {
            x.valve();
        }
        for (int i = 0; i < MOST_PIPES - 2; i++) {
            int valve = 2 + i % 45;
            x.pipe(valve, valve + 1, 1 + i / 45);
        }
        x.due(94).pipe(0, 47, 1);
        x.due(95).pipe(1, 2, 1);
        x.due(0).way(0, 1);
        x.due(47).rest(0);
        x.due(94).pipeOf(0, 0);
        x.due(44).pipeOf(0, 1);
        x.due(0).pipeOf(0, 45);
        x.due(95).pipeOf(0, 46);
        x.due(1).way(1, 0);
        x.due(95).pipeOf(1, 0);
        x.due(94).pipeOf(1, 46);
    }

    @Sentence(promise = {3, 8, 14}, in = "Terms", says = PUMP)
    static void fromInToOutAndNeverOtherwise() {
        for (int in = 0; in < 3; in++) {
            for (int out = 0; out < 3; out++) {
                if (in != out) {
                    onlyFromInToOut(in, out);
                }
            }
        }
    }

    private static void onlyFromInToOut(int in, int out) {
        House x = tanks(3);
        int pump = x.pump();
        for (int tank = 0; tank < 3; tank++) {
            x.pipe(pump, tank, 1);
        }
        x.due(NONE).way(in, out);
        x.due(true).forward(pump, in, out);
        for (int from = 0; from < 3; from++) {
            for (int to = 0; to < 3; to++) {
                if (from != to) {
                    x.due(from == in && to == out ? 0 : NONE).way(from, to);
                }
            }
        }
        x.duePipes(0, in, out);
    }

    @Sentence(promise = {4, 8}, in = "Terms", says = "a valve passes it both ways; a tank none.")
    static void aValveBothWaysAndATankNone() {
        House x = rowOfValves(1, 1);
        x.due(0).way(0, 1);
        x.due(1).way(1, 0);
        x.duePipes(0, 0, 1);
        x.duePipes(1, 1, 0);
        House y = tanks(3);
        y.pipe(0, 2, 1);
        y.pipe(2, 1, 1);
        y.due(NONE).way(0, 1);
        y.due(NONE).way(1, 0);
        y.due(0).way(0, 2);
        y.due(1).way(1, 2);
    }

    @Sentence(promise = 8, in = "Terms", says = WAY)
    static void oneBehindTheOther() {
        House x = mixed();
        x.duePipes(0, 0, 1, 2);
        x.due(9).rest(0);
        House apart = tanks(2);
        int one = apart.valve();
        int another = apart.valve();
        apart.pipe(0, one, 1);
        apart.pipe(another, 1, 1);
        apart.due(NONE).way(0, 1);
        apart.pipe(one, another, 1);
        apart.due(0).way(0, 1);
        apart.duePipes(0, 0, 2, 1);
    }

    @Sentence(promise = 8, in = "Terms", says = "no thing stands on it twice,")
    static void noThingTwice() {
        House x = tanks(2);
        int one = x.valve();
        int pump = x.pump();
        int another = x.valve();
        x.pipe(0, one, 1);
        x.pipe(one, pump, 1);
        x.pipe(pump, another, 1);
        x.pipe(another, one, 1);
        x.forward(pump, one, another);
        x.due(NONE).way(0, 1);
        x.pipe(one, 1, 1);
        x.due(0).way(0, 1);
        x.duePipes(0, 0, 4);
        x.dueValves(0, one);
        House back = tanks(2);
        int in = back.pump();
        back.pipe(0, in, 1);
        back.pipe(0, in, 1);
        back.due(false).forward(in, 0, 0);
        back.pipe(0, 1, 5);
        back.due(0).way(0, 1);
        back.duePipes(0, 2);
    }

    @Sentence(promise = 8, in = "Terms", says = "between its ends are pumps and valves alone,")
    static void noTankBetweenItsEnds() {
        House x = tanks(3);
        int valve = x.valve();
        x.pipe(0, valve, 1);
        x.pipe(valve, 2, 1);
        x.pipe(2, 1, 1);
        x.due(NONE).way(0, 1);
        x.pipe(valve, 1, MOST_LITRES);
        x.due(0).way(0, 1);
        x.duePipes(0, 0, 3);
        x.due(1).way(0, 2);
        x.duePipes(1, 0, 1);
    }

    @Sentence(promise = {8, 14}, in = "Terms", says = "and each pump on it is gone through from IN to OUT.")
    static void eachPumpFromInToOut() {
        House x = tanks(2);
        int one = x.pump();
        int another = x.pump();
        x.pipe(0, one, 1);
        x.pipe(one, another, 1);
        x.pipe(another, 1, 1);
        x.forward(one, 0, another);
        x.forward(another, 1, one);
        x.due(NONE).way(0, 1);
        x.due(NONE).way(1, 0);
        x.forward(another, one, 1);
        x.due(0).way(0, 1);
        x.due(NONE).way(1, 0);
        x.forward(one, another, 0);
        x.due(NONE).way(0, 1);
        x.due(NONE).way(1, 0);
        x.forward(another, 1, one);
        x.due(1).way(1, 0);
        x.duePipes(1, 2, 1, 0);
    }

    @Sentence(promise = {7, 8, 12, 13}, in = "Terms", says = "What is BARRED is on no way;")
    static void whatIsBarredIsOnNoWay() {
        int[] onTheWay = {0, 1, 3, 5};
        for (int thing : onTheWay) {
            House x = mixed();
            x.bar(6, true);
            x.run(11, true);
            x.due(3).way(0, 1);
            x.bar(thing, true);
            x.due(NONE).way(0, 1);
            x.due(NONE).other(1, 0);
            x.due(NONE).two(0, 1, 1, 0);
            x.bar(thing, false);
            x.due(4).way(0, 1);
        }
    }

    @Sentence(promise = {6, 8, 12, 13}, in = "Terms", says = "neither is a pipe that RUNS,")
    static void aPipeThatRunsIsOnNoWay() {
        House x = tanks(2);
        x.pipe(0, 1, 1);
        x.pipe(0, 1, 2);
        x.due(0).way(0, 1);
        x.run(0, true);
        x.due(1).way(0, 1);
        x.duePipes(1, 1);
        x.due(NONE).other(1, 0);
        x.due(NONE).two(0, 1, 0, 1);
        x.run(1, true);
        x.due(NONE).way(0, 1);
    }

    @Sentence(promise = {6, 8}, in = "Terms", says = "nor a pump or valve at the end of one.")
    static void aPumpOrValveAtThePipesEndIsOnNoWay() {
        House x = tanks(3);
        int valve = x.valve();
        int pump = x.pump();
        x.pipe(0, valve, 1);
        x.pipe(valve, 1, 1);
        x.pipe(0, pump, 1);
        x.pipe(pump, 1, 1);
        x.forward(pump, 0, 1);
        int atValve = x.pipe(valve, 2, 1);
        int atPump = x.pipe(2, pump, 1);
        x.due(0).way(0, 1);
        x.duePipes(0, 2, 3);
        x.run(atPump, true);
        x.due(1).way(0, 1);
        x.duePipes(1, 0, 1);
        x.run(atValve, true);
        x.due(NONE).way(0, 1);
        x.run(atPump, false);
        x.due(2).way(0, 1);
        x.duePipes(2, 2, 3);
    }

    @Sentence(promise = {6, 8}, in = "Terms", says = "nor a pump or valve at the end of one.")
    static void aTankAtThePipesEndStaysOpen() {
        House x = tanks(3);
        x.pipe(0, 1, 1);
        x.pipe(0, 2, 1);
        x.pipe(2, 1, 1);
        x.run(1, true);
        x.run(2, true);
        x.due(0).way(0, 1);
        x.due(NONE).way(0, 2);
    }

    @Sentence(promise = {8, 11, 12, 13}, in = "Terms", says = FEWEST_LITRES)
    static void oneLitreOutweighsAllValves() {
        House x = rowOfValves(MOST_THINGS - 2, 1);
        x.due(47).pipe(0, 1, 48);
        x.due(0).way(0, 1);
        x.due(47).rest(0);
        x.due(46).pipeOf(0, 46);
        x.due(48).pipe(0, 1, 47);
        x.due(1).way(0, 1);
        x.duePipes(1, 48);
    }

    @Sentence(promise = {8, 11}, in = "Terms", says = FEWEST_LITRES)
    static void moreLitresThanAnIntHolds() {
        House x = rowOfValves(4, MOST_LITRES);
        x.due(0).way(0, 1);
        x.due(5_000_000_000L).rest(0);
        x.pipe(0, 1, MOST_LITRES);
        x.due(1).way(0, 1);
        x.duePipes(1, 5);
    }

    @Sentence(promise = {8, 11}, in = "Terms", says = FEWEST_LITRES)
    static void oneLitreLessAmongTheMostLitres() {
        House x = tanks(2);
        for (int row = 0; row < 2; row++) {
            int last = 0;
            for (int i = 0; i < 23; i++) {
                int valve = x.valve();
                x.pipe(last, valve, MOST_LITRES);
                last = valve;
            }
            x.pipe(last, 1, MOST_LITRES - row);
        }
        x.due(0).way(0, 1);
        x.due(23_999_999_999L).rest(0);
        x.due(24).pipeOf(0, 0);
        x.due(1).other(0, 0);
        x.due(24_000_000_000L).rest(1);
        x.due(0).pipeOf(1, 0);
    }

    @Sentence(promise = {8, 12, 13}, in = "Terms", says = FEWEST_VALVES)
    static void oneValveLessOutweighsThePipesNumbers() {
        House x = tanks(2);
        int one = x.valve();
        int another = x.valve();
        int pump = x.pump();
        x.pipe(0, one, 1);
        x.pipe(one, another, 1);
        x.pipe(another, 1, 1);
        x.pipe(0, pump, 2);
        x.pipe(pump, one, 1);
        x.pipe(pump, 1, 1);
        x.due(0).way(0, 1);
        x.dueValves(0, one, another);
        x.forward(pump, 0, 1);
        x.due(1).way(0, 1);
        x.duePipes(1, 3, 5);
        x.dueValves(1);
        x.due(2).other(1, 1);
        x.duePipes(2, 0, 1, 2);
    }

    @Sentence(promise = 8, in = "Terms", says = FEWEST_VALVES)
    static void fewerValvesThoughMorePipesAndPumps() {
        House x = tanks(2);
        int valve = x.valve();
        int one = x.pump();
        int another = x.pump();
        x.pipe(0, valve, 1);
        x.pipe(valve, 1, 2);
        x.pipe(0, one, 1);
        x.pipe(one, another, 1);
        x.pipe(another, 1, 1);
        x.forward(one, 0, another);
        x.forward(another, one, 1);
        x.due(0).way(0, 1);
        x.duePipes(0, 2, 3, 4);
    }

    @Sentence(promise = 8, in = "Terms", says = FEWEST_VALVES)
    static void oneValveLessAmongTheMostValves() {
        House x = rowOfValves(44, 1);
        int last = x.pump();
        x.pipe(44, last, 1);
        x.pipe(last, 1, 1);
        x.forward(last, 44, 1);
        x.due(0).way(0, 1);
        x.due(45).rest(0);
        x.due(46).pipeOf(0, 44);
        x.due(44).valveOf(0, 42);
        x.due(NONE).valveOf(0, 43);
    }

    @Sentence(promise = {8, 12, 13}, in = "Terms", says = LESSER_PIPE)
    static void theRowsDifferAtTheFirstPipe() {
        House x = tanks(2);
        int one = x.valve();
        int another = x.valve();
        x.pipe(another, 1, 1);
        x.pipe(0, one, 1);
        x.pipe(0, another, 1);
        x.pipe(one, 1, 1);
        x.due(0).way(0, 1);
        x.duePipes(0, 1, 3);
        x.due(1).way(1, 0);
        x.duePipes(1, 0, 2);
        x.due(3).two(0, 1, 0, 1);
        x.duePipes(2, 1, 3);
        x.duePipes(3, 2, 0);
    }

    @Sentence(promise = {8, 12, 13}, in = "Terms", says = LESSER_PIPE)
    static void theRowsDifferAtTheLastPipe() {
        House x = tanks(2);
        int valve = x.valve();
        x.pipe(0, valve, 1);
        x.pipe(1, valve, 1);
        x.pipe(valve, 1, 1);
        x.due(0).way(0, 1);
        x.duePipes(0, 0, 1);
        x.due(1).other(0, 1);
        x.duePipes(1, 0, 2);
        House y = tanks(2);
        for (int i = 0; i < MOST_PIPES; i++) {
            y.pipe(0, 1, 1);
        }
        y.due(1).two(0, 1, 0, 1);
        y.duePipes(0, 0);
        y.duePipes(1, 1);
    }

    @Sentence(promise = 8, in = "Terms", says = LESSER_PIPE)
    static void theRowsDifferInTheMiddleAndInLength() {
        House x = tanks(2);
        int valve = x.valve();
        int pump = x.pump();
        x.pipe(pump, 1, 2);
        x.pipe(0, valve, 1);
        x.pipe(valve, pump, 1);
        x.pipe(valve, 1, 3);
        x.due(0).way(0, 1);
        x.duePipes(0, 1, 3);
        x.forward(pump, valve, 1);
        x.due(1).way(0, 1);
        x.duePipes(1, 1, 2, 0);
        House y = tanks(2);
        y.valve();
        y.pump();
        y.pipe(pump, 1, 2);
        y.pipe(0, valve, 1);
        y.pipe(valve, 1, 3);
        y.pipe(valve, pump, 1);
        y.forward(pump, valve, 1);
        y.due(0).way(0, 1);
        y.duePipes(0, 1, 2);
    }

    @Sentence(promise = {8, 11, 12, 13, 16}, in = "Terms", says = KEPT)
    static void waysAreNumberedInTheOrderInWhichTheyWereFound() {
        House x = tanks(2);
        x.pipe(0, 1, 1);
        x.pipe(0, 1, 2);
        x.due(0).way(0, 1);
        x.due(1).other(0, 0);
        x.due(3).two(0, 1, 1, 0);
        x.due(NONE).other(0, 1);
        x.due(SAME).way(0, 0);
        x.due(4).way(1, 0);
        int[] pipes = {0, 1, 0, 1, 0};
        for (int way = 0; way < pipes.length; way++) {
            x.duePipes(way, pipes[way]);
        }
        for (int way = 5; way < MOST_WAYS; way++) {
            x.due(way).way(0, 1);
        }
        x.due(FULL).way(0, 1);
        x.due(64).told(2);
    }

    @Sentence(promise = {8, 9, 10, 11, 16}, in = "Terms", says = KEPT)
    static void keptAsTheyAreWhateverComesLater() {
        House x = mixed();
        x.pipe(0, 1, 1);
        x.forward(3, 5, 0);
        for (int thing = 0; thing < MIXED_THINGS; thing++) {
            x.bar(thing, true);
        }
        for (int pipe = 0; pipe <= MIXED_PIPES; pipe++) {
            x.run(pipe, true);
        }
        x.due(NONE).way(0, 1);
        x.duePipes(0, 0, 1, 2);
        x.duePipes(1, 3, 4);
        x.duePipes(2, 4, 3);
        x.dueValves(0, 5);
        x.dueValves(1, 6);
        x.dueValves(2, 6);
        x.dueBlown(0, 2, 1);
        x.dueBlown(1, 4, 3);
        x.dueBlown(2, 3, 4);
        x.due(9).rest(0);
        x.due(21).rest(1);
        x.due(21).rest(2);
        x.due(3).told(2);
    }

    @Sentence(promise = {5, 8, 9, 10, 11, 12, 13, 16}, in = "Terms", says = WRONG_FIRST)
    static void wrongBeforeWhatACallTellsBesides() {
        House x = mixed();
        for (int none : outside(MOST_PIPES)) {
            x.due(WRONG).pipe(none, none, -1);
            x.due(WRONG).way(none, none);
            x.due(WRONG).pipeOf(none, -1);
            x.due(WRONG).valveOf(none, -1);
            x.due(WRONG).rest(none);
            x.due(WRONG).other(none, -1);
            x.due(WRONG).two(none, none, none, none);
            x.due(WRONG).blow(none, -1);
        }
        for (int thing = 3; thing < MIXED_THINGS; thing++) {
            x.due(WRONG).way(thing, thing);
            x.due(WRONG).two(thing, thing, thing, thing);
        }
    }

    @Sentence(promise = {5, 8, 9, 10, 12, 13, 15, 16}, in = "Terms",
            says = "The constants: `NONE = -1`: There is none.")
    static void none() {
        Check.due("NONE", WaySearch.NONE, -1);
        tanks(2).due(-1).way(0, 1);
    }

    @Sentence(promise = {5, 8, 9, 10, 11, 12, 13, 16}, in = "Terms", says = "`WRONG = -2`: No such number.")
    static void wrong() {
        Check.due("WRONG", WaySearch.WRONG, -2);
        tanks(2).due(-2).way(0, 2);
        tanks(2).due(-2L).rest(0);
    }

    @Sentence(promise = {8, 13}, in = "Terms", says = "`SAME = -3`: A tank to itself.")
    static void same() {
        Check.due("SAME", WaySearch.SAME, -3);
        tanks(2).due(-3).way(0, 0);
    }

    @Sentence(promise = {8, 13}, in = "Terms", says = "`EMPTY = -4`: The tank that is to give is empty.")
    static void empty() {
        Check.due("EMPTY", WaySearch.EMPTY, -4);
        House x = tanks(1);
        x.tank(true);
        x.due(-4).way(1, 0);
        x.due(-1).way(0, 1);
    }

    @Sentence(promise = {2, 3, 4, 5, 8, 12, 13}, in = "Terms", says = "`FULL = -5`: No more can be kept.")
    static void full() {
        Check.due("FULL", WaySearch.FULL, -5);
        fullOfThings().due(-5).tank(false);
        fullOfThings().due(-5).pump();
        fullOfThings().due(-5).valve();
        fullOfPipes().due(-5).pipe(0, 1, 1);
        fullOfWays().due(-5).way(0, 1);
        fullOfWays().due(-5).other(0, 0);
        fullOfWays().due(-5).two(0, 1, 0, 1);
    }
}
