import java.util.ArrayList;
import java.util.List;
import java.util.function.Supplier;

/**
 * Asks a house everything that there is to ask. A question may change the house, and a house is good
 * for 512 calls alone, so each group of questions is put to a new house that was built alike.
 */
final class Questions {
    private final Supplier<House> built;
    private final List<String> answers = new ArrayList<>();
    private final List<Integer> tanks = new ArrayList<>();
    private int things = 0;
    private int pipes = 0;
    private int ways = 0;

    private Questions(Supplier<House> built) {
        this.built = built;
    }

    static List<String> askAll(Supplier<House> built) {
        Questions questions = new Questions(built);
        questions.askCounts();
        questions.askKinds();
        questions.askMarks();
        questions.askRoom();
        questions.askKeptWays();
        questions.askLeastWays();
        return questions.answers;
    }

    private House open() {
        House house = built.get();
        house.takeAnswers();
        return house;
    }

    private void close(House house) {
        answers.addAll(house.takeAnswers());
    }

    private void askCounts() {
        House house = open();
        things = house.told(0);
        pipes = house.told(1);
        ways = house.told(2);
        for (int what = 3; what <= 6; what++) {
            house.told(what);
        }
        close(house);
    }

    /** A tank to itself is SAME, and another thing WRONG. */
    private void askKinds() {
        House house = open();
        for (int thing = 0; thing < things; thing++) {
            if (house.way(thing, thing) == WaySearch.SAME) {
                tanks.add(thing);
            }
        }
        close(house);
    }

    private void askMarks() {
        House house = open();
        for (int thing = 0; thing < things; thing++) {
            house.bar(thing, true);
        }
        close(house);
        house = open();
        for (int pipe = 0; pipe < pipes; pipe++) {
            house.run(pipe, true);
        }
        close(house);
    }

    /** What is not there yet has no mark of an earlier call on it when it comes. */
    private void askRoom() {
        House house = open();
        for (int i = 0; i < 49; i++) {
            house.bar(house.valve(), true);
        }
        house.told(5);
        close(house);
        house = open();
        for (int i = 0; i < 97; i++) {
            house.run(house.pipe(0, 1, 1), true);
        }
        close(house);
    }

    private void askKeptWays() {
        for (int way = 0; way < ways; way++) {
            House house = open();
            askWay(house, way);
            close(house);
        }
    }

    private static void askWay(House house, int way) {
        house.rest(way);
        for (int k = 0; house.pipeOf(way, k) >= 0; k++) {
            house.valveOf(way, k);
            house.blow(way, k);
        }
    }

    /** The ways that would be found now, without each pipe too, show what the pipes and pumps are. */
    private void askLeastWays() {
        for (int from : tanks) {
            for (int to : tanks) {
                House house = open();
                int way = house.way(from, to);
                if (way >= 0) {
                    askWay(house, way);
                }
                close(house);
                if (way >= 0 || way == WaySearch.FULL) {
                    askWithoutEachPipe(from, to);
                }
            }
        }
    }

    private void askWithoutEachPipe(int from, int to) {
        for (int pipe = 0; pipe < pipes; pipe++) {
            House house = open();
            house.run(pipe, true);
            int way = house.way(from, to);
            if (way >= 0) {
                askWay(house, way);
            }
            house.run(pipe, false);
            close(house);
        }
    }
}
