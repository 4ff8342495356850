import java.util.Random;

/** All promises: runs of 512 calls, the same ones always, answered as PlainHouse answers them. */
public final class PlainHouseTest {
    private static final int CALLS = 512;
    private static final long[] ODD_LITRES = {0, -1, 1_000_000_000L, 1_000_000_001L, Long.MIN_VALUE};
    private static final int[] ODD_NUMBERS = {-1, 48, 64, 96, Integer.MIN_VALUE, Integer.MAX_VALUE};

    private final Random random;
    private final PlainHouse plain;
    private final WaySearch x = new WaySearch();
    private final int wantedThings;
    private final int wantedPipes;
    private int calls = 0;

    private PlainHouseTest(long seed, boolean small) {
        random = new Random(seed);
        plain = new PlainHouse(small);
        wantedThings = small ? 4 + random.nextInt(6) : 20 + random.nextInt(29);
        wantedPipes = small ? 6 + random.nextInt(10) : 30 + random.nextInt(67);
    }

    public static void main(String[] args) {
        for (int seed = 0; seed < 400; seed++) {
            new PlainHouseTest(seed, true).compareRun();
        }
        for (int seed = 400; seed < 600; seed++) {
            new PlainHouseTest(seed, false).compareRun();
        }
        Check.end();
    }

    private void compareRun() {
        while (calls < CALLS) {
            if (random.nextInt(20) == 0) {
                buildWhatever();
            } else if (plain.told(0) < wantedThings) {
                buildThing();
            } else if (plain.told(1) < wantedPipes && random.nextInt(10) != 0) {
                buildPipe();
            } else if (random.nextInt(3) == 0) {
                change();
            } else if (random.nextInt(3) != 0) {
                find();
            } else {
                ask();
            }
        }
    }

    private void due(String call, long got, long want) {
        calls++;
        Check.due(call, got, want);
    }

    private void due(String call, boolean got, boolean want) {
        calls++;
        Check.due(call, got, want);
    }

    private void buildWhatever() {
        // A small house stays small: every row through it is looked at.
        boolean room = plain.told(0) < wantedThings + 2 || plain.told(0) >= 48;
        if (room && random.nextBoolean()) {
            buildThing();
        } else if (plain.told(1) < wantedPipes + 2 || plain.told(1) >= 96) {
            buildPipe();
        }
    }

    private void buildThing() {
        int kind = random.nextInt(6);
        boolean empty = random.nextInt(4) == 0;
        if (kind < 1 || plain.told(0) < 2) {
            due("tank(" + empty + ")", x.tank(empty), plain.thing('T', empty));
        } else if (kind < 3) {
            due("pump()", x.pump(), plain.thing('P', false));
        } else {
            due("valve()", x.valve(), plain.thing('V', false));
        }
    }

    private void buildPipe() {
        int a = thing();
        int b = thing();
        boolean odd = random.nextInt(40) == 0;
        long litres = odd ? ODD_LITRES[random.nextInt(ODD_LITRES.length)] : 1 + random.nextInt(3);
        due("pipe(" + a + ", " + b + ", " + litres + ")", x.pipe(a, b, litres), plain.pipe(a, b, litres));
    }

    private void change() {
        boolean on = random.nextInt(3) == 0;
        int thing = thing();
        int pipe = number(plain.told(1));
        switch (random.nextInt(5)) {
            case 0:
                due("run(" + pipe + ", " + on + ")", x.run(pipe, on), plain.run(pipe, on));
                break;
            case 1:
                due("bar(" + thing + ", " + on + ")", x.bar(thing, on), plain.bar(thing, on));
                break;
            case 2:
                compareForward(thing, thing(), thing());
                break;
            default:
                turnSomePump();
        }
    }

    private void compareForward(int pump, int a, int b) {
        due("forward(" + pump + ", " + a + ", " + b + ")", x.forward(pump, a, b), plain.forward(pump, a, b));
    }

    /** Most pumps and things that come by chance are not joined, so others are tried. */
    private void turnSomePump() {
        for (int i = 0; i < 100; i++) {
            int pump = thing();
            int a = thing();
            int b = thing();
            if (plain.forward(pump, a, b)) {
                compareForward(pump, a, b);
                return;
            }
        }
    }

    private void find() {
        int a = tank();
        int b = tankBut(a);
        int c = tank();
        int d = tankBut(c);
        int way = number(plain.told(2));
        int k = number(3);
        int before = plain.told(2);
        switch (random.nextInt(4)) {
            case 0:
                due("two(" + a + ", " + b + ", " + c + ", " + d + ")", x.two(a, b, c, d), plain.two(a, b, c, d));
                break;
            case 1:
                due("other(" + way + ", " + k + ")", x.other(way, k), plain.other(way, k));
                break;
            default:
                due("way(" + a + ", " + b + ")", x.way(a, b), plain.way(a, b));
        }
        for (int found = before; found < plain.told(2); found++) {
            comparePipes(found);
        }
    }

    private void comparePipes(int way) {
        due("rest(" + way + ")", x.rest(way), plain.rest(way));
        int k = 0;
        while (plain.pipeOf(way, k) >= 0) {
            due("pipeOf(" + way + ", " + k + ")", x.pipeOf(way, k), plain.pipeOf(way, k));
            k++;
        }
    }

    private void ask() {
        int what = random.nextInt(9) - 1;
        int way = number(plain.told(2));
        int k = number(4);
        due("told(" + what + ")", x.told(what), plain.told(what));
        due("rest(" + way + ")", x.rest(way), plain.rest(way));
        due("pipeOf(" + way + ", " + k + ")", x.pipeOf(way, k), plain.pipeOf(way, k));
        due("valveOf(" + way + ", " + k + ")", x.valveOf(way, k), plain.valveOf(way, k));
        due("blow(" + way + ", " + k + ")", x.blow(way, k), plain.blow(way, k));
    }

    private int thing() {
        return number(plain.told(0));
    }

    /** A tank, most times. */
    private int tank() {
        int thing = thing();
        for (int i = 0; i < 30 && !plain.isTank(thing); i++) {
            thing = thing();
        }
        return thing;
    }

    /** A tank that is not a certain one, most times. */
    private int tankBut(int not) {
        int tank = tank();
        for (int i = 0; i < 4 && tank == not; i++) {
            tank = tank();
        }
        return tank;
    }

    /** A number below count, most times. */
    private int number(int count) {
        if (count == 0 || random.nextInt(50) == 0) {
            return random.nextBoolean() ? count : ODD_NUMBERS[random.nextInt(ODD_NUMBERS.length)];
        }
        return random.nextInt(count);
    }
}
