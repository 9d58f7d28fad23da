import java.util.ArrayList;
import java.util.Collections;
import java.util.List;

/** Runs of many calls on one house, made by hand, where one call shows what earlier ones left behind. */
public final class RunTest {
    private static final Checks IT = new Checks();
    private static final int MOST_CALLS = 512;

    private final Guesswright house;
    private int calls;

    private RunTest() {
        this(new Guesswright(), 0);
    }

    private RunTest(Guesswright house, int calls) {
        this.house = house;
        this.calls = calls;
    }

    public static void main(String[] arguments) {
        new RunTest().madeAnewInOtherPlaces();
        new RunTest().smallBehindLarge();
        new RunTest().largeBehindSmall();
        for (int lies = 0; lies <= 3; lies++) {
            takenAndTakenBack(lies);
        }
        new RunTest().liesTakenBackMayBeSetAnew();
        new RunTest().graphsAsTheyWereMade();
        new RunTest().verticesToldAnew();
        new RunTest().fleetsRefused();
        new RunTest().answersRefused();
        new RunTest().edgesRefused();
        new RunTest().searchesRefused();
        new RunTest().searchesOfSeveralGames();
        new RunTest().setsOfSeveralGames();
        IT.end();
    }

    private void is(String what, Object due, Checks.Call call) {
        count();
        IT.is(what, due, call);
    }

    /** No look at the whole house here: later calls of the run are to show that nothing changed. */
    private void refuses(String what, Class<? extends RuntimeException> due, Checks.Call call) {
        count();
        IT.is(what, due.getName(), call);
    }

    private void count() {
        calls++;
        if (calls > MOST_CALLS) {
            throw new IllegalStateException("what this call answers is free");
        }
    }

    // ---- games made, taken away and made anew

    private interface Step {
        void at(int game);
    }

    /** Eight kinds of games; each round all of them move on by a number, so that each lies where another lay. */
    private void madeAnewInOtherPlaces() {
        graphOfPath(4);
        List<Step> makers = new ArrayList<>(List.of(
                game -> is("codes", game, () -> house.codes(2, 3, true)),
                game -> is("codes without repeats", game, () -> house.codes(2, 3, false)),
                game -> is("numbers", game, () -> house.numbers(10)),
                game -> is("coins", game, () -> house.coins(3, true)),
                game -> is("fleets", game, () -> house.fleets(3, 1, 2, true)),
                game -> is("mines", game, () -> house.mines(3, 1, 1, false)),
                game -> is("graph", game, house::graph),
                game -> is("one number", game, () -> house.numbers(1))));
        List<Step> plays = new ArrayList<>(List.of(this::playCodes, this::playUnlikeCodes, this::playNumbers,
                this::playCoins, this::playFleets, this::playMines, this::playGraph, this::playOneNumber));
        List<Integer> things = new ArrayList<>(List.of(9, 6, 10, 7, 2, 3, 4, 1));
        for (int round = 0; round < 5; round++) {
            for (int game = 0; game < 8; game++) {
                makers.get(game).at(game);
            }
            for (int game = 0; game < 8; game++) {
                isAsMade(game, things.get(game));
                plays.get(game).at(game);
            }
            is("all stand", true, house::isTrue);
            is("all are taken away", 8, house::clear);
            refuses("the first is not there", Checks.INDEX, () -> house.left(0));
            refuses("nor the last", Checks.INDEX, () -> house.left(7));
            Collections.rotate(makers, 1);
            Collections.rotate(plays, 1);
            Collections.rotate(things, 1);
        }
    }

    private void isAsMade(int game, int things) {
        is("all are left", things, () -> house.left(game));
        is("no lies of the last", 0, () -> house.liesOf(game, things - 1));
        is("no lies at first", 0, () -> house.setLies(game, 0));
        refuses("nothing to take back", Checks.MISSING, () -> house.back(game));
    }

    /** 01 with one place right leaves 00, 02, 11 and 21. */
    private void playCodes(int game) {
        is("codes: taken", 4, () -> house.take(game, 1, 10));
        is("codes: the last", 7, () -> house.leftAt(game, 3));
        is("codes: 12 lies", 1, () -> house.liesOf(game, 5));
        is("codes: 11 gives it truly", 0, () -> house.liesOf(game, 4));
    }

    /** Twice that 01 should stand the other way round; with a lie all are left by the first time. */
    private void playUnlikeCodes(int game) {
        is("unlike codes: a lie", 0, () -> house.setLies(game, 1));
        is("unlike codes: taken", 6, () -> house.take(game, 1, 2));
        is("unlike codes: taken twice", 1, () -> house.take(game, 1, 2));
        is("unlike codes: 10", 3, () -> house.told(game, house.leftAt(game, 0)));
        count();
    }

    private void playNumbers(int game) {
        is("numbers: 5 to 9", 5, () -> house.take(game, 5, 1));
        is("numbers: 6 and 8", 2, () -> house.take(game, 102, 0));
        is("numbers: 8", 8, () -> house.leftAt(game, 1));
        is("numbers: 5 to 9 again", 5, () -> house.back(game));
    }

    /** The coin 0 is left, the coin 1 right: the left side is heavier by a heavier coin 0, or a lighter coin 1. */
    private void playCoins(int game) {
        is("coins: taken", 2, () -> house.take(game, 7, 1));
        is("coins: the second one", 3, () -> house.told(game, 4));
        is("coins: is left", 4, () -> house.leftAt(game, 1));
        is("coins: all alike lies", 1, () -> house.liesOf(game, 0));
    }

    private void playFleets(int game) {
        is("fleets: taken", 1, () -> house.take(game, 0, 2));
        is("fleets: where it lies", 3, () -> house.sure(game, true));
        is("fleets: where it does not", 4, () -> house.sure(game, false));
        is("fleets: the other one lies", 1, () -> house.liesOf(game, 1));
    }

    /** No mine at one end nor beside it: it is at the other end. */
    private void playMines(int game) {
        is("mines: cleared from an end", true, () -> house.isClear(game, 2, 0));
        is("mines: taken", 1, () -> house.take(game, 0, 0));
        is("mines: where it is", 4, () -> house.told(game, 2));
        is("mines: at the end", 1, () -> house.at(game, 2));
    }

    private void playGraph(int game) {
        is("graph: taken", 1, () -> house.take(game, 0, 2));
        is("graph: two edges off", 2, () -> house.leftAt(game, 0));
        is("graph: the far end", 3, () -> house.answer(game, 3, 0));
        is("graph: all again", 4, () -> house.back(game));
    }

    private void playOneNumber(int game) {
        is("one number: taken", 1, () -> house.take(game, 102, 0));
        is("one number: is known", 0, () -> house.depth(game));
        refuses("one number: not odd", Checks.UNSUPPORTED, () -> house.take(game, 102, 1));
        is("one number: drawn", 0, () -> house.draw(game, 5));
    }

    /** Nothing of 1296 codes is seen in a game of two, in the same place. */
    private void smallBehindLarge() {
        is("1296 codes", 0, () -> house.codes(4, 6, true));
        is("with lies", 0, () -> house.setLies(0, 3));
        is("an answer of none", 1296, () -> house.take(0, 0, 77));
        is("another", 1296, () -> house.take(0, 1295, -1));
        is("taken away", 1, house::clear);
        is("two vertices", 0, () -> house.vertices(2));
        is("a game of them", 0, house::graph);
        is("two things", 2, () -> house.things(0));
        is("two questions", 2, () -> house.questions(0));
        is("two left", 2, () -> house.left(0));
        is("no lie of the first", 0, () -> house.liesOf(0, 0));
        is("no lie of the second", 0, () -> house.liesOf(0, 1));
        refuses("no third thing", Checks.INDEX, () -> house.told(0, 2));
        refuses("no third left", Checks.MISSING, () -> house.leftAt(0, 2));
        refuses("no third question", Checks.ARGUMENT, () -> house.answer(0, 0, 2));
        is("no lies were set", 0, () -> house.setLies(0, 0));
        is("one question tells them apart", 1, () -> house.atOnce(0));
        refuses("no codes", Checks.UNSUPPORTED, () -> house.sure(0, false));
        is("no weight of the codes", 2L, () -> house.weight(0, 40));
    }

    private void largeBehindSmall() {
        is("one number", 0, () -> house.numbers(1));
        is("taken away", 1, house::clear);
        is("2 of 25 cells", 0, () -> house.mines(5, 5, 2, true));
        is("all of them", 300, () -> house.left(0));
        is("the last one's cells", (1 << 24) + (1 << 23), () -> house.told(0, 299));
        is("each cell as often", 24, () -> house.at(0, 24));
        is("on the ring the corners are beside", 2, () -> house.answer(0, 299, 4));
        is("taken away as well", 1, house::clear);
        is("the same, not on a ring", 0, () -> house.mines(5, 5, 2, false));
        is("the corner is far off", 0, () -> house.answer(0, 299, 4));
        is("but beside the last ones", 2, () -> house.answer(0, 299, 18));
        is("taken away once more", 1, house::clear);
        is("a ship of five", 0, () -> house.fleets(5, 5, 5, true));
        is("ten ways", 10, () -> house.left(0));
        is("down the last column", 1 << 4 | 1 << 9 | 1 << 14 | 1 << 19 | 1 << 24, () -> house.told(0, 5));
        is("five at the corner", 5, () -> house.answer(0, 9, 24));
    }

    // ---- answers taken and taken back

    /** Thirty answers of an adversary, and back again by the same ways, in games of each kind. */
    private static void takenAndTakenBack(int lies) {
        upAndDown(lies, Houses.ofCodes(2, 3, true), 1, 5, 8);
        upAndDown(lies, Houses.ofCodes(3, 4, false), 6, 27, 57);
        upAndDown(lies, Houses.ofNumbers(20), 10, 103, 7);
        upAndDown(lies, Houses.ofCoins(4, true), 7, 21, 11);
        upAndDown(lies, Houses.ofFleets(3, 3, 21, false), 4, 0, 5);
        upAndDown(lies, Houses.ofMines(3, 3, 2, true), 4, 1, 8);
        upAndDown(lies, Houses.ofPath(9), 0, 4, 7);
    }

    private static void upAndDown(int lies, Guesswright house, int... questions) {
        // A path of nine vertices and its game, the dearest of these to make, took ten calls.
        RunTest run = new RunTest(house, 10);
        run.is("lies are set", 0, () -> house.setLies(0, lies));
        List<String> states = new ArrayList<>();
        for (int taken = 0; taken < 30; taken++) {
            int question = questions[taken % questions.length];
            states.add(run.state());
            run.count();
            int answer = house.adverse(0, question);
            run.is("truly by one that is left", true, () -> house.part(0, question, answer) > 0);
        }
        String top = run.state();
        run.refuses("no more", Checks.STATE, () -> house.adverse(0, questions[0]));
        run.refuses("nor lies", Checks.UNSUPPORTED, () -> house.setLies(0, 0));
        IT.is("a refusal changes nothing", top, run::state);
        for (int taken = 29; taken >= 0; taken--) {
            run.count();
            int left = house.back(0);
            IT.is(lies + " lies, " + taken + " taken", states.get(taken), run::state);
            run.is("as many as told", left, () -> house.left(0));
        }
        run.refuses("no more back", Checks.MISSING, () -> house.back(0));
        run.is("all left", house.things(0), () -> house.left(0));
    }

    /** What six calls tell. */
    private String state() {
        for (int call = 0; call < 6; call++) {
            count();
        }
        int left = house.left(0);
        return left + " " + house.leftAt(0, left - 1) + " " + house.leftAt(0, left / 2) + " " + house.weight(0, 9) + " "
                + house.liesOf(0, 0) + " " + house.liesOf(0, 4);
    }

    private void liesTakenBackMayBeSetAnew() {
        is("four numbers", 0, () -> house.numbers(4));
        is("two lies", 0, () -> house.setLies(0, 2));
        is("a first answer", 4, () -> house.take(0, 1, 0));
        is("a second one", 4, () -> house.take(0, 1, 0));
        refuses("not while two are taken", Checks.UNSUPPORTED, () -> house.setLies(0, 1));
        is("the second one back", 4, () -> house.back(0));
        refuses("nor while one is", Checks.UNSUPPORTED, () -> house.setLies(0, 1));
        is("the first one back", 4, () -> house.back(0));
        is("now they are", 2, () -> house.setLies(0, 1));
        is("once more the first", 4, () -> house.take(0, 1, 0));
        is("the second leaves 0", 1, () -> house.take(0, 1, 0));
        is("all but it lie twice", 2, () -> house.liesOf(0, 3));
        refuses("with one lie no tree", Checks.UNSUPPORTED, () -> house.depth(0));
        is("back", 4, () -> house.back(0));
        is("back to none", 4, () -> house.back(0));
        is("without lies", 1, () -> house.setLies(0, 0));
        is("the first leaves 0 at once", 1, () -> house.take(0, 1, 0));
        is("and a tree", 0, () -> house.depth(0));
        refuses("what leaves none", Checks.UNSUPPORTED, () -> house.take(0, 1, 1));
        is("takes no answer's place", 4, () -> house.back(0));
        refuses("as it was the only one", Checks.MISSING, () -> house.back(0));
    }

    // ---- edges put in and taken out, before and after

    private void graphOfPath(int vertices) {
        is("vertices", 0, () -> house.vertices(vertices));
        for (int vertex = 1; vertex < vertices; vertex++) {
            int put = vertex;
            is("an edge of the path", put, () -> house.edge(put - 1, put));
        }
    }

    /** From one end of six vertices to the other: no way, a path, a ring, a ring cut open elsewhere. */
    private void graphsAsTheyWereMade() {
        int[] ways = {99, 5, 1, 1};
        is("six vertices", 0, () -> house.vertices(6));
        is("a game without edges", 0, house::graph);
        areWays(ways, 1);
        for (int vertex = 1; vertex < 6; vertex++) {
            int put = vertex;
            is("an edge", put, () -> house.edge(put, put - 1));
            areWays(ways, 1);
        }
        is("a game of the path", 1, house::graph);
        is("what tells all apart", 1, () -> house.atOnce(1));
        is("an answer of the path", 1, () -> house.take(1, 0, 4));
        is("a ring", 6, () -> house.edge(0, 5));
        areWays(ways, 2);
        is("a game of the ring", 2, house::graph);
        is("opened elsewhere", 5, () -> house.edge(2, 3));
        is("a game of the other path", 3, house::graph);
        areWays(ways, 4);
        is("a long way round", 5, () -> house.answer(3, 3, 2));
        is("still one edge of the ring", 1, () -> house.answer(2, 3, 2));
        is("the answer back, of the first path", 6, () -> house.back(1));
        is("which still tells all apart", 6L, () -> house.weigh(1, 0, 'p'));
        is("the ring does not", 4L, () -> house.weigh(2, 0, 'p'));
        is("put in again", 6, () -> house.edge(3, 2));
        is("a game of the ring anew", 4, house::graph);
        is("as the first ring", 3, () -> house.answer(4, 0, 3));
        is("all taken away", 5, house::clear);
        is("but not the edges", 6, () -> house.vertices(6));
        is("now they are", 0, house::graph);
        is("no way", 99, () -> house.answer(0, 0, 5));
    }

    private void areWays(int[] ways, int games) {
        for (int game = 0; game < games; game++) {
            int asked = game;
            is("the way in game " + game, ways[game], () -> house.answer(asked, 0, 5));
        }
    }

    private void verticesToldAnew() {
        graphOfPath(20);
        is("a path of 20", 0, house::graph);
        is("19 edges go", 19, () -> house.vertices(3));
        is("a game of three", 1, house::graph);
        is("the path is still there", 19, () -> house.answer(0, 19, 0));
        is("with twenty things", 20, () -> house.things(0));
        refuses("the other has three", Checks.INDEX, () -> house.told(1, 3));
        refuses("and so has the graph", Checks.INDEX, () -> house.edge(0, 3));
        is("twenty again", 0, () -> house.vertices(20));
        is("a game of them", 2, house::graph);
        is("no edge came back", 99, () -> house.answer(2, 4, 5));
        is("one is put in", 1, () -> house.edge(4, 5));
        is("not into that game", 99, () -> house.answer(2, 4, 5));
        is("three questions of three apart", 2, () -> house.atOnce(1));
        is("the path's end tells all", 1, () -> house.proof(0, 0));
    }

    // ---- what later calls show after a call that was refused

    private void fleetsRefused() {
        is("a fleet", 0, () -> house.fleets(3, 2, 21, false));
        is("two down at one end, one at the other", 4, () -> house.left(0));
        refuses("too many ways", Checks.ARGUMENT, () -> house.fleets(5, 5, 111, true));
        refuses("no way", Checks.ARGUMENT, () -> house.fleets(2, 2, 3, true));
        refuses("no such game came", Checks.INDEX, () -> house.left(1));
        is("the first fleet's ways", 4, () -> house.left(0));
        is("its first way", 1 + 8 + 4, () -> house.told(0, 0));
        is("the next game's number", 1, () -> house.mines(2, 2, 1, false));
        is("its things", 4, () -> house.left(1));
        for (int game = 2; game < 8; game++) {
            int made = game;
            is("numbers", made, () -> house.numbers(made));
        }
        refuses("too many ways, in a full house", Checks.ARGUMENT, () -> house.fleets(5, 5, 111, true));
        refuses("a full house", Checks.STATE, () -> house.fleets(5, 5, 5, true));
        refuses("no codes either", Checks.STATE, () -> house.codes(4, 6, true));
        refuses("nor mines", Checks.STATE, () -> house.mines(5, 5, 2, true));
        is("the last game's things", 7, () -> house.things(7));
        is("and what is told of them", 6, () -> house.told(7, 6));
        is("its questions", 14, () -> house.questions(7));
        is("the fleet's last way", 4 + 32 + 8, () -> house.told(0, 3));
        is("what the fleet answers", 2, () -> house.answer(0, 3, 5));
        is("the mines' last", 8, () -> house.told(1, 3));
        is("eight go", 8, house::clear);
        is("made in the place of the first", 0, () -> house.numbers(64));
    }

    private void answersRefused() {
        is("nine codes", 0, () -> house.codes(2, 3, true));
        is("one place of 00", 4, () -> house.take(0, 0, 10));
        refuses("what none gives", Checks.UNSUPPORTED, () -> house.take(0, 0, 20));
        refuses("no such question", Checks.ARGUMENT, () -> house.take(0, 9, 10));
        refuses("nor for an adversary", Checks.ARGUMENT, () -> house.adverse(0, -1));
        is("four are left", 4, () -> house.left(0));
        is("no lie came", 1, () -> house.liesOf(0, 8));
        for (int taken = 1; taken < 30; taken++) {
            is("the same again", 4, () -> house.take(0, 0, 10));
        }
        refuses("nothing would be left comes first", Checks.UNSUPPORTED, () -> house.take(0, 0, 0));
        refuses("thirty were taken", Checks.STATE, () -> house.take(0, 0, 10));
        refuses("by an adversary, too", Checks.STATE, () -> house.adverse(0, 1));
        is("thirty lies", 30, () -> house.liesOf(0, 8));
        is("one back", 4, () -> house.back(0));
        is("there is room for the least of four answers", 1, () -> house.adverse(0, 1));
        is("which 20 gives", 6, () -> house.leftAt(0, 0));
        refuses("no room", Checks.STATE, () -> house.adverse(0, 1));
        for (int taken = 29; taken > 0; taken--) {
            is("back", 4, () -> house.back(0));
        }
        is("the first one back", 9, () -> house.back(0));
        refuses("no more", Checks.MISSING, () -> house.back(0));
        is("no lies are left behind", 0, () -> house.liesOf(0, 8));
        is("lies may be set", 0, () -> house.setLies(0, 3));
        refuses("not four", Checks.ARGUMENT, () -> house.setLies(0, 4));
        is("three stay", 3, () -> house.setLies(0, 0));
    }

    private void edgesRefused() {
        graphOfPath(3);
        refuses("itself", Checks.ARGUMENT, () -> house.edge(1, 1));
        refuses("none", Checks.INDEX, () -> house.edge(1, 3));
        refuses("none ahead", Checks.INDEX, () -> house.edge(-1, 1));
        refuses("too many", Checks.ARGUMENT, () -> house.vertices(21));
        refuses("too few", Checks.ARGUMENT, () -> house.vertices(0));
        is("both edges are there", 0, house::graph);
        is("end to end", 2, () -> house.answer(0, 0, 2));
        is("one out", 1, () -> house.edge(1, 0));
        is("one goes", 1, () -> house.vertices(1));
        refuses("one vertex", Checks.INDEX, () -> house.edge(0, 1));
        is("a game of it", 1, house::graph);
        is("itself", 0, () -> house.answer(1, 0, 0));
    }

    /** What is refused for there being no tree, no set, no proof, leaves the game as it is, and so does what is not. */
    private void searchesRefused() {
        is("two ships on four cells", 0, () -> house.fleets(2, 2, 22, true));
        refuses("no depth", Checks.MISSING, () -> house.depth(0));
        refuses("no sum", Checks.MISSING, () -> house.leastSum(0));
        refuses("no set", Checks.MISSING, () -> house.atOnce(0));
        refuses("no proof", Checks.MISSING, () -> house.proof(0, 1));
        refuses("not found", Checks.UNSUPPORTED, () -> house.find(0, 1, 's'));
        is("both ways left", 2, () -> house.left(0));
        is("and all is true", true, house::isTrue);
        is("numbers", 1, () -> house.numbers(15));
        refuses("too many for a depth", Checks.UNSUPPORTED, () -> house.depth(1));
        is("14 left", 14, () -> house.take(1, 1, 1));
        is("remainders by 9, then by being at least", 2, () -> house.depth(1));
        refuses("too many for a sum", Checks.UNSUPPORTED, () -> house.leastSum(1));
        refuses("too many for a set", Checks.UNSUPPORTED, () -> house.atOnce(1));
        is("a proof of 1", 1, () -> house.proof(1, 1));
        is("still 14", 14, () -> house.left(1));
        refuses("0 is not left", Checks.UNSUPPORTED, () -> house.find(1, 0, 'w'));
        is("back", 15, () -> house.back(1));
        is("two ships still lie alike", 0, () -> house.leftAt(0, 0));
        refuses("and have no depth", Checks.MISSING, () -> house.depth(0));
    }

    /** What was found of one game is not taken for another's, of as many things. */
    private void searchesOfSeveralGames() {
        graphOfPath(8);
        is("a path", 0, house::graph);
        is("its edges go", 7, () -> house.vertices(8));
        is("eight alone", 1, house::graph);
        is("eight numbers", 2, () -> house.numbers(8));
        for (int time = 0; time < 3; time++) {
            is("a path's end tells all", 1, () -> house.depth(0));
            is("one after another", 7, () -> house.depth(1));
            is("by the remainders by 8", 1, () -> house.depth(2));
            is("each once", 8, () -> house.leastSum(0));
            is("1 and 2, and so on to 7, and 7", 35, () -> house.leastSum(1));
            is("one at once", 1, () -> house.atOnce(0));
            refuses("seven at once", Checks.MISSING, () -> house.atOnce(1));
            is("one proves it", 1, () -> house.proof(1, 3));
            is("of the path two may have it", 1, () -> house.proof(0, 3));
            is("all true", true, house::isTrue);
        }
        is("one goes", 7, () -> house.take(1, 0, 99));
        is("six steps", 6, () -> house.depth(1));
        is("the path as it was", 1, () -> house.depth(0));
        is("back", 8, () -> house.back(1));
        is("seven steps", 7, () -> house.depth(1));
    }

    /** The last vertex is moved to lie like the one ahead of it, as the end of the path that tells all others. */
    private void setsOfSeveralGames() {
        graphOfPath(12);
        is("a path", 0, house::graph);
        is("its last edge goes", 10, () -> house.edge(10, 11));
        is("another one comes", 11, () -> house.edge(9, 11));
        is("a path with two ends", 1, house::graph);
        for (int time = 0; time < 3; time++) {
            is("the path's end tells all", 1, () -> house.atOnce(0));
            is("not both of the two ends", 2, () -> house.atOnce(1));
            is("one of which proves itself", 1, () -> house.proof(1, 11));
        }
    }
}
