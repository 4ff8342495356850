import java.lang.reflect.InvocationTargetException;
import java.lang.reflect.Method;
import java.util.ArrayList;
import java.util.Arrays;
import java.util.Comparator;
import java.util.List;
import java.util.function.Consumer;
import java.util.function.Supplier;

/** What the tests of the document's sentences have in common. Each of their methods is one test. */
abstract class Sentences {
    // As the document tells them, not as the class has them.
    static final int NONE = -1;
    static final int WRONG = -2;
    static final int SAME = -3;
    static final int EMPTY = -4;
    static final int FULL = -5;

    static final int MOST_THINGS = 48;
    static final int MOST_PIPES = 96;
    static final int MOST_WAYS = 64;
    static final long MOST_LITRES = 1_000_000_000L;

    static final int LEAST_INT = Integer.MIN_VALUE;
    static final int GREATEST_INT = Integer.MAX_VALUE;

    /** Runs every test of a class, and ends with exit code 1 if an answer was not as due. */
    static void runAll(Class<?> tests) {
        List<Method> methods = new ArrayList<>();
        for (Method method : tests.getDeclaredMethods()) {
            if (method.isAnnotationPresent(Sentence.class)) {
                methods.add(method);
            }
        }
        methods.sort(Comparator.comparing(Method::getName));
        for (Method method : methods) {
            runOne(method);
        }
        Check.begin("");
        Check.end();
    }

    private static void runOne(Method method) {
        Sentence sentence = method.getAnnotation(Sentence.class);
        String numbers = Arrays.toString(sentence.promise()).replaceAll("[\\[\\]]", "");
        Check.begin("promise " + numbers + ", \"" + sentence.says() + "\", " + method.getName());
        int before = Check.compared();
        try {
            method.invoke(null);
        } catch (InvocationTargetException thrown) {
            Check.fail("threw " + thrown.getCause());
        } catch (IllegalAccessException closed) {
            Check.fail("cannot be run: " + closed);
        }
        if (Check.compared() == before) {
            Check.fail("compared nothing");
        }
    }

    /** Numbers below zero, and from the first one that is not there up. */
    static int[] outside(int count) {
        int[] candidates = {
            -1, -2, -count - 1, LEAST_INT, LEAST_INT + 1, count, count + 1, 48, 49, 64, 65, 96, 97, 256,
            65536, GREATEST_INT - 1, GREATEST_INT};
        return Arrays.stream(candidates).filter(n -> n < 0 || n >= count).distinct().toArray();
    }

    /** Whether calls that are refused leave everything as it was: what later calls answer shows it. */
    static void leavesAll(Supplier<House> built, Consumer<House> refused) {
        List<String> without = Questions.askAll(built);
        List<String> with = Questions.askAll(() -> {
            House house = built.get();
            refused.accept(house);
            return house;
        });
        int shorter = Math.min(without.size(), with.size());
        int same = 0;
        while (same < shorter && without.get(same).equals(with.get(same))) {
            same++;
        }
        Check.due("later answers that are as without the refused calls", same, without.size());
        if (same < with.size()) {
            Check.fail("behind refused calls " + with.get(same) + ", but without them "
                    + (same < without.size() ? without.get(same) : "nothing is asked"));
        }
    }

    /** The same of calls that are refused in the mixed house, whatever is barred in it and runs. */
    static void leavesAllOfMixed(Consumer<House> refused) {
        leavesAll(Sentences::mixed, refused);
        leavesAll(Sentences::closed, refused);
    }

    /** Tanks 0, 1 and so on, none of them empty. */
    static House tanks(int many) {
        House house = new House();
        for (int i = 0; i < many; i++) {
            house.tank(false);
        }
        return house;
    }

    /**
     * A house with something of every kind. Tanks 0, 1 and, empty, 2; pumps 3 (told), 4 (not told);
     * valves 5, 6, 7 (barred) and 8 (without a pipe); pipe 9 runs; ways 0 to 2.
     */
    static House mixed() {
        House house = tanks(2);
        house.tank(true);
        house.pump();
        house.pump();
        house.valve();
        house.valve();
        house.valve();
        house.valve();
        house.pipe(0, 3, 2);
        house.pipe(3, 5, 3);
        house.pipe(5, 1, 4);
        house.pipe(0, 6, 10);
        house.pipe(6, 1, 11);
        house.pipe(6, 2, 5);
        house.pipe(0, 7, 1);
        house.pipe(7, 1, 1);
        house.pipe(0, 4, 1);
        house.pipe(4, 1, 1);
        house.pipe(6, 5, 20);
        house.pipe(0, 1, 90);
        house.forward(3, 0, 5);
        house.bar(7, true);
        house.run(9, true);
        house.way(0, 1);
        house.other(0, 1);
        house.way(1, 0);
        return house;
    }

    static final int MIXED_THINGS = 9;
    static final int MIXED_PIPES = 12;
    static final int MIXED_WAYS = 3;

    /** The mixed house with all things barred but those that were, and all pipes running likewise. */
    static House closed() {
        House house = mixed();
        for (int thing = 0; thing < MIXED_THINGS; thing++) {
            house.bar(thing, thing != 7);
        }
        for (int pipe = 0; pipe < MIXED_PIPES; pipe++) {
            house.run(pipe, pipe != 9);
        }
        return house;
    }

    /** The mixed house with as many things as there can be: the further ones are of all kinds. */
    static House fullOfThings() {
        House house = mixed();
        for (int i = MIXED_THINGS; i < MOST_THINGS; i++) {
            switch (i % 3) {
                case 0 -> house.pump();
                case 1 -> house.valve();
                default -> house.tank(i % 2 == 0);
            }
        }
        return house;
    }

    /** The mixed house with as many pipes as there can be. */
    static House fullOfPipes() {
        House house = mixed();
        for (int i = MIXED_PIPES; i < MOST_PIPES; i++) {
            house.pipe(i % 2, 5 + i % 3, 30 + i);
        }
        return house;
    }

    /** The mixed house with so many ways. */
    static House withWays(int many) {
        House house = mixed();
        for (int i = MIXED_WAYS; i < many; i++) {
            house.way(i % 2, 1 - i % 2);
        }
        return house;
    }

    static House fullOfWays() {
        return withWays(MOST_WAYS);
    }

    /** Two tanks with a row of pipes over so many valves between them, all of the same litres. */
    static House rowOfValves(int valves, long litres) {
        House house = tanks(2);
        int last = 0;
        for (int i = 0; i < valves; i++) {
            int valve = house.valve();
            house.pipe(last, valve, litres);
            last = valve;
        }
        house.pipe(last, 1, litres);
        return house;
    }
}
