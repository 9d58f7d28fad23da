import java.util.NoSuchElementException;

/** Counts checks, and tells those that fail. */
final class Checks {
    interface Call {
        Object answer();
    }

    private int passed = 0;
    private int failed = 0;
    private String heading = "";

    /** What follows is told under this heading, if it fails. */
    void under(String words) {
        heading = words.isEmpty() ? "" : words + ": ";
    }

    int count() {
        return passed + failed;
    }

    void is(String what, Object due, Call call) {
        Object got;
        try {
            got = call.answer();
        } catch (RuntimeException thrown) {
            got = thrown.getClass().getName();
        }
        note(what + " answers " + due, due.equals(got), got);
    }

    void holds(String what, boolean isSo) {
        note(what, isSo, isSo);
    }

    /** The call throws just this class, not one below it, as the machine would, and leaves the house as it was. */
    void refuses(String what, Class<? extends RuntimeException> due, Guesswright house, Call call) {
        String before = stateOf(house);
        Object got;
        try {
            got = call.answer();
        } catch (RuntimeException thrown) {
            got = thrown.getClass();
        }
        note(what + " throws " + due.getSimpleName(), due.equals(got), got);
        note(what + " changes nothing", before.equals(stateOf(house)), "a change");
    }

    private void note(String what, boolean isSo, Object got) {
        if (isSo) {
            passed++;
        } else {
            failed++;
            System.out.println("FAILED: " + heading + what + ", but got " + got);
        }
    }

    /** Prints the closing line, and ends the program. */
    void end() {
        System.out.println(passed + " passed, " + failed + " failed");
        System.exit(failed == 0 ? 0 : 1);
    }

    /** All that the calls which ask only can tell. */
    static String stateOf(Guesswright house) {
        StringBuilder state = new StringBuilder();
        int games = gamesOf(house);
        for (int game = 0; game < games; game++) {
            state.append(house.things(game)).append(' ').append(house.questions(game)).append(' ');
            state.append(house.weight(game, 3)).append(' ').append(liesSet(house, game)).append(':');
            for (int index = 0; index < house.left(game); index++) {
                state.append(house.leftAt(game, index)).append(',');
            }
            for (int thing = 0; thing < house.things(game); thing++) {
                state.append(house.told(game, thing)).append('/').append(house.liesOf(game, thing)).append(' ');
            }
            state.append('\n');
        }
        appendGraph(house, state);
        return state.toString();
    }

    /** Lies are set and set back, which is refused if an answer was taken. */
    private static String liesSet(Guesswright house, int game) {
        try {
            int before = house.setLies(game, 0);
            house.setLies(game, before);
            return before + " lies";
        } catch (UnsupportedOperationException taken) {
            return "taken";
        }
    }

    static int gamesOf(Guesswright house) {
        int games = 0;
        try {
            while (games < 100) {
                house.things(games);
                games++;
            }
        } catch (IndexOutOfBoundsException end) {
            return games;
        }
        return games;
    }

    /** An edge that is put in and taken out again tells whether it was there, and leaves it so. */
    private static void appendGraph(Guesswright house, StringBuilder state) {
        int vertices = 0;
        while (vertices < 100 && isVertex(house, vertices)) {
            vertices++;
        }
        state.append(vertices).append(" vertices");
        for (int one = 0; one < vertices; one++) {
            for (int other = 0; other < one; other++) {
                int changed = house.edge(one, other);
                int restored = house.edge(one, other);
                state.append(changed < restored ? '1' : '0');
            }
        }
    }

    private static boolean isVertex(Guesswright house, int vertex) {
        try {
            house.edge(vertex, vertex);
        } catch (IndexOutOfBoundsException none) {
            return false;
        } catch (IllegalArgumentException same) {
            return true;
        }
        return false;
    }

    static final Class<IndexOutOfBoundsException> INDEX = IndexOutOfBoundsException.class;
    static final Class<IllegalArgumentException> ARGUMENT = IllegalArgumentException.class;
    static final Class<IllegalStateException> STATE = IllegalStateException.class;
    static final Class<UnsupportedOperationException> UNSUPPORTED = UnsupportedOperationException.class;
    static final Class<NoSuchElementException> MISSING = NoSuchElementException.class;
}
