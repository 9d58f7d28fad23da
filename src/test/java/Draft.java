import java.lang.reflect.InvocationTargetException;
import java.lang.reflect.Method;
import java.lang.reflect.Modifier;
import java.util.ArrayList;
import java.util.Arrays;
import java.util.HashMap;
import java.util.List;
import java.util.Map;
import java.util.Random;
import java.util.Set;

/** A run of calls by chance on a few small games, written down with each answer and what the house held ahead of it. */
final class Draft {
    private static final Map<String, Method> METHODS = methods();
    private static final Set<String> CHANGING = Set.of("codes", "numbers", "coins", "fleets", "mines", "vertices", "edge",
            "graph", "clear", "setLies", "take", "back", "adverse");
    private static final String LETTERS = "wspwspx";

    final List<Row> rows = new ArrayList<>();
    private final Random random;
    private final Guesswright house = new Guesswright();
    private final List<int[]> questions = new ArrayList<>();
    private final List<String> kinds = new ArrayList<>();
    private final List<Integer> taken = new ArrayList<>();
    private int vertices = 1;

    /** One call; an answer that is a class is that of an exception. */
    static final class Row {
        final String name;
        final Object[] arguments;
        Object answer = null;
        int vertices = 1;
        /** How many answers were taken of each game, and one of its questions. */
        int[] taken = {};
        int[] asked = {};

        Row(String name, Object... arguments) {
            this.name = name;
            this.arguments = arguments;
        }

        Object answerOf(Guesswright asked) {
            try {
                return METHODS.get(name).invoke(asked, arguments);
            } catch (InvocationTargetException thrown) {
                return thrown.getCause().getClass();
            } catch (IllegalAccessException closed) {
                throw new IllegalStateException(closed);
            }
        }

        boolean isRefused() {
            return answer instanceof Class<?>;
        }

        boolean isChanging() {
            return CHANGING.contains(name);
        }

        @Override
        public String toString() {
            return name + Arrays.toString(arguments);
        }
    }

    private static Map<String, Method> methods() {
        Map<String, Method> methods = new HashMap<>();
        for (Method method : Guesswright.class.getDeclaredMethods()) {
            if (Modifier.isPublic(method.getModifiers())) {
                methods.put(method.getName(), method);
            }
        }
        return methods;
    }

    Draft(int seed, int length) {
        random = new Random(seed);
        while (rows.size() < length) {
            step();
        }
    }

    private int upTo(int bound) {
        return random.nextInt(bound);
    }

    /** Now and then a number beside the range. */
    private int within(int least, int most) {
        int chance = upTo(24);
        return chance == 0 ? least - 1 : chance == 1 ? most + 1 : least + upTo(Math.max(1, most - least + 1));
    }

    private void call(String name, Object... arguments) {
        Row row = new Row(name, arguments);
        row.vertices = vertices;
        row.taken = taken.stream().mapToInt(Integer::intValue).toArray();
        row.asked = questions.stream().mapToInt(some -> some[rows.size() % some.length]).toArray();
        row.answer = row.answerOf(house);
        rows.add(row);
        if (row.isRefused()) {
            return;
        }
        if (name.equals("clear")) {
            questions.clear();
            kinds.clear();
            taken.clear();
        } else if (name.equals("vertices")) {
            vertices = (Integer) arguments[0];
        } else if (name.equals("take") || name.equals("adverse")) {
            taken.set((Integer) arguments[0], taken.get((Integer) arguments[0]) + 1);
        } else if (name.equals("back")) {
            taken.set((Integer) arguments[0], taken.get((Integer) arguments[0]) - 1);
        }
    }

    private void make(int[] asked, String name, Object... arguments) {
        call(name, arguments);
        if (!rows.get(rows.size() - 1).isRefused()) {
            questions.add(asked);
            kinds.add(name);
            taken.add(0);
        }
    }

    private void step() {
        int chance = upTo(100);
        if (chance < 16) {
            make();
        } else if (chance < 26) {
            call("edge", within(0, vertices - 1), within(0, vertices - 1));
        } else if (chance < 28) {
            call("vertices", within(1, 7));
        } else if (chance < 30) {
            call("clear");
        } else if (chance < 62) {
            answers();
        } else {
            ask();
        }
    }

    private static int[] upwards(int from, int to) {
        int[] row = new int[to - from + 1];
        Arrays.setAll(row, i -> from + i);
        return row;
    }

    private void make() {
        boolean is = random.nextBoolean();
        switch (upTo(10)) {
            case 0 -> make(upwards(0, 8), "codes", 2, 3, true);
            case 1 -> make(new int[] {1, 2, 3, 5, 6, 7}, "codes", 2, 3, false);
            case 2 -> make(upwards(0, 7), "codes", 3, 2, true);
            case 3 -> make(new int[] {1, 2, 3, 4, 5, 6, 7, 8, 102, 103, 109}, "numbers", 9);
            case 4 -> make(new int[] {5, 7, 11, 15, 19, 21}, "coins", 3, is);
            case 5 -> make(upwards(0, 5), "fleets", 3, 2, 21, is);
            case 6 -> make(upwards(0, 3), "fleets", 2, 2, 22, is);
            case 7 -> make(upwards(0, 5), "mines", 3, 2, within(0, 6), is);
            default -> make(upwards(0, vertices - 1), "graph");
        }
    }

    private int game() {
        return within(0, questions.size() - 1);
    }

    /** One of the games of a kind, if there is any. */
    private int gameOf(String kind) {
        int game = kinds.lastIndexOf(kind);
        return game < 0 || upTo(4) == 0 ? game() : game;
    }

    private int question(int game) {
        boolean isGame = game >= 0 && game < questions.size();
        return isGame && upTo(12) > 0 ? questions.get(game)[upTo(questions.get(game).length)] : upTo(25) - 1;
    }

    private int thing(int game) {
        if (game < 0 || game >= questions.size()) {
            return 0;
        }
        return upTo(3) == 0 ? within(0, house.things(game) - 1) : house.leftAt(game, upTo(house.left(game)));
    }

    private void answers() {
        int game = game();
        int question = question(game);
        switch (upTo(8)) {
            case 0, 1 -> call("adverse", game, question);
            case 2 -> call("back", game);
            case 3 -> call("setLies", game, within(0, 3));
            case 4 -> call("take", game, question, upTo(12));
            default -> {
                Object answer = new Row("answer", game, thing(game), question).answerOf(house);
                call("take", game, question, answer instanceof Integer ? answer : -1);
            }
        }
    }

    private void ask() {
        int game = game();
        int thing = thing(game);
        int question = question(game);
        char letter = LETTERS.charAt(upTo(LETTERS.length()));
        boolean is = random.nextBoolean();
        switch (upTo(26)) {
            case 0 -> call("things", game);
            case 1 -> call("left", game);
            case 2 -> call("leftAt", game, upTo(6));
            case 3 -> call("told", game, thing);
            case 4 -> call("liesOf", game, thing);
            case 5 -> call("questions", game);
            case 6 -> call("answer", game, thing, question);
            case 7 -> call("draw", game, within(0, 99999));
            case 8 -> call("weigh", game, question, letter);
            case 9 -> call("part", game, question, upTo(12));
            case 10 -> call("best", game, letter);
            case 11 -> call("find", game, thing, letter);
            case 12 -> call("depth", game);
            case 13 -> call("leastSum", game);
            case 14 -> call("atOnce", game);
            case 15 -> call("proof", game, thing);
            case 16 -> call("weight", game, within(0, 40));
            case 17 -> call("at", gameOf(is ? "mines" : "fleets"), upTo(6));
            case 18 -> call("sure", gameOf(is ? "mines" : "fleets"), random.nextBoolean());
            case 19, 20 -> {
                int mines = gameOf("mines");
                call("isClear", mines, thing(mines), upTo(6));
            }
            case 21 -> call("bits", game);
            case 22 -> call("unlike");
            case 23 -> call("leftShare", game);
            case 24 -> call("meanLeft", game, question);
            default -> call("isTrue");
        }
    }
}
