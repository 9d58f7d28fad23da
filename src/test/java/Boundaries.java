import java.util.ArrayList;
import java.util.List;

/** What the tests of boundaries share: arguments that are too small and too large, on their own and in full houses. */
abstract class Boundaries {
    static final int LOW = Integer.MIN_VALUE;
    static final int HIGH = Integer.MAX_VALUE;
    static final char[] OTHER_LETTERS = {0, ' ', 'W', 'S', 'P', 'o', 'q', 'r', 't', 'v', 'x', 'w' + 256, 65535};

    private final Sentences sentences;
    final Checks it;

    Boundaries(Sentences sentences, Checks checks) {
        this.sentences = sentences;
        it = checks;
    }

    interface InHouse {
        Object in(Guesswright house);
    }

    interface OfGame {
        Object of(Guesswright house, int game);
    }

    /** A call with a game and one more number. */
    interface OfNumber {
        Object of(Guesswright house, int game, int number);
    }

    interface Maker {
        Guesswright make();
    }

    abstract void all();

    final void of(int promise, String words, Runnable test) {
        sentences.test(promise, words, test);
    }

    /** Numbers are refused in each house alike. */
    final void refusesNumbers(String what, Class<? extends RuntimeException> due, Guesswright house, OfNumber call,
            int... numbers) {
        for (int number : numbers) {
            it.refuses(what + " " + number, due, house, () -> call.of(house, 0, number));
        }
    }

    // ---- no such game

    final void noSuchGame(int promise, OfGame... calls) {
        of(promise, "Throws `IndexOutOfBoundsException` if there is no such game", () -> refuseGames(calls));
    }

    /** The calls may have other arguments that are wrong, too, as the game's number is looked at first. */
    final void refuseGames(OfGame... calls) {
        Guesswright emptied = Houses.full();
        emptied.clear();
        for (OfGame call : calls) {
            refuseGamesIn(new Guesswright(), call, LOW, -1, 0, 7, 8, HIGH);
            refuseGamesIn(Houses.ofGames(3), call, LOW, -1, 3, 4, 7, 8, HIGH);
            refuseGamesIn(Houses.full(), call, LOW, -1, 8, 9, HIGH);
            refuseGamesIn(emptied, call, LOW, -1, 0, 7, 8, HIGH);
        }
    }

    private void refuseGamesIn(Guesswright house, OfGame call, int... games) {
        for (int game : games) {
            it.refuses("of " + Checks.gamesOf(house) + " games, game " + game, Checks.INDEX, house,
                    () -> call.of(house, game));
        }
    }

    /** Things are refused on both sides, of each kind of game, and so are games, with a thing that would be there. */
    final void refuseThings(OfNumber call) {
        refuseGames((house, game) -> call.of(house, game, 0));
        for (Maker maker : kinds()) {
            Guesswright house = maker.make();
            int things = house.things(0);
            refusesNumbers("of " + things + " things, thing", Checks.INDEX, house, call, LOW, -1, things, things + 1,
                    2000, HIGH);
        }
    }

    // ---- no such question

    final void noSuchQuestion(int promise, OfNumber call) {
        of(promise, "Throws `IllegalArgumentException` if there is no such question", () -> refuseQuestions(call));
    }

    /** Of each kind of game the questions at the edges are asked, and their neighbours refused. */
    final void refuseQuestions(OfNumber call) {
        List<Maker> kinds = kinds();
        int[][] refused = refusedQuestions();
        int[][] asked = askedQuestions();
        for (int kind = 0; kind < refused.length; kind++) {
            Guesswright house = kinds.get(kind).make();
            refusesNumbers("kind " + kind + ", question", Checks.ARGUMENT, house, call, refused[kind]);
            refusesNumbers("kind " + kind + ", question", Checks.ARGUMENT, house, call, LOW, HIGH);
            for (int question : asked[kind]) {
                Guesswright other = kinds.get(kind).make();
                it.holds("kind " + kind + " is asked " + question, call.of(other, 0, question) != null);
            }
        }
    }

    /** One house of each kind of game, with one lie, so that any answer may be taken once. */
    final List<Maker> kinds() {
        List<Maker> kinds = new ArrayList<>();
        kinds.add(() -> withLie(Houses.ofCodes(2, 3, true)));
        kinds.add(() -> withLie(Houses.ofCodes(2, 3, false)));
        kinds.add(() -> withLie(Houses.ofCodes(1, 1, true)));
        kinds.add(() -> withLie(Houses.ofCodes(4, 6, true)));
        kinds.add(() -> withLie(Houses.ofNumbers(1)));
        kinds.add(() -> withLie(Houses.ofNumbers(2)));
        kinds.add(() -> withLie(Houses.ofNumbers(64)));
        kinds.add(() -> withLie(Houses.ofCoins(2, false)));
        kinds.add(() -> withLie(Houses.ofCoins(7, true)));
        kinds.add(() -> withLie(Houses.ofFleets(1, 1, 1, false)));
        kinds.add(() -> withLie(Houses.ofFleets(5, 5, 1, true)));
        kinds.add(() -> withLie(Houses.ofMines(5, 1, 2, true)));
        kinds.add(() -> withLie(Houses.ofMines(4, 4, 4, false)));
        kinds.add(() -> withLie(Houses.ofLoneVertices(1)));
        kinds.add(() -> withLie(Houses.ofLoneVertices(20)));
        return kinds;
    }

    private static Guesswright withLie(Guesswright house) {
        house.setLies(0, 1);
        return house;
    }

    /** The greatest balance of seven coins, 2145, has the digits 2221110, that of the coin 6 first. */
    private static int[][] askedQuestions() {
        return new int[][] {{0, 8}, {1, 7}, {0}, {0, 1295}, {102, 109}, {1, 102, 109}, {1, 63, 102, 109}, {5, 7},
            {5, 7, 2145}, {0}, {0, 24}, {0, 4}, {0, 15}, {0}, {0, 19}};
    }

    private static int[][] refusedQuestions() {
        return new int[][] {{-1, 9}, {-1, 0, 4, 8, 9}, {-1, 1}, {-1, 1296}, {-1, 0, 1, 2, 100, 101, 110},
            {-1, 0, 2, 100, 101, 110}, {-1, 0, 64, 65, 99, 100, 101, 110, 111},
            {-7, -5, -1, 0, 1, 2, 3, 4, 6, 8, 9, 11, 19},
            {-5, -1, 0, 1, 2, 4, 1093, 2146, 2184, 2186, 2187, 2189, 4375}, {-1, 1}, {-1, 25, 31, 32}, {-1, 5, 9},
            {-1, 16, 31, 32}, {-1, 1}, {-1, 20, 32}};
    }

    // ---- rows of tests that several calls share

    /** Takes the same answer many times. */
    static void takeAgain(Guesswright house, int question, int answer, int times) {
        for (int time = 0; time < times; time++) {
            house.take(0, question, answer);
        }
    }

    static int choose(int many, int taken) {
        long[] row = new long[many + 1];
        row[0] = 1;
        for (int length = 1; length <= many; length++) {
            for (int i = length; i > 0; i--) {
                row[i] += row[i - 1];
            }
        }
        return (int) row[taken];
    }
}
