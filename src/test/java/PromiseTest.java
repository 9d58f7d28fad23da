/** For each promise of the document: ordinary calls, edges, and each exception, with the order in which they apply. */
public final class PromiseTest {
    private static final Checks IT = new Checks();
    private static final int LOW = Integer.MIN_VALUE;
    private static final int HIGH = Integer.MAX_VALUE;

    public static void main(String[] arguments) {
        games();
        thingsAndAnswers();
        weighed();
        treesSetsProofs();
        grids();
        figures();
        IT.end();
    }

    private static void games() {
        newObject();
        codes();
        codeOrder();
        numbers();
        coins();
        fleets();
        fleetOrder();
        mines();
        minesOnRings();
        vertices();
        edge();
        graph();
        clear();
        setLies();
    }

    private static void thingsAndAnswers() {
        things();
        left();
        leftAt();
        told();
        liesOf();
        questions();
        answerOfCodes();
        answerOfCoins();
        answerOfGrids();
        answerRefused();
        take();
        takeFull();
        back();
        adverse();
        draw();
    }

    private static void weighed() {
        weigh();
        part();
        best();
        bestOfCodes();
        find();
    }

    private static void treesSetsProofs() {
        depth();
        depthOfGraphs();
        depthFarFromEven();
        leastSum();
        atOnce();
        proof();
        weight();
    }

    private static void grids() {
        at();
        sure();
        isClear();
    }

    private static void figures() {
        bits();
        unlike();
        leftShare();
        meanLeft();
        isTrue();
    }

    // ---- promise 1

    private static void newObject() {
        Guesswright house = new Guesswright();
        IT.is("1: games of a new house", 0, house::clear);
        IT.refuses("1: no game 0", Checks.INDEX, house, () -> house.things(0));
        IT.refuses("1: vertex 0 alone", Checks.ARGUMENT, house, () -> house.edge(0, 0));
        IT.refuses("1: no vertex 1", Checks.INDEX, house, () -> house.edge(0, 1));
        IT.is("1: the graph", 0, house::graph);
        IT.is("1: its vertices", 1, () -> house.things(0));
        IT.is("1: its edges", 0, () -> house.vertices(1));
    }

    // ---- promise 2

    private static void codes() {
        Guesswright house = new Guesswright();
        IT.is("2: least codes", 0, () -> house.codes(1, 1, true));
        IT.is("2: greatest codes", 1, () -> house.codes(4, 6, true));
        IT.is("2: codes without repeats", 2, () -> house.codes(3, 3, false));
        IT.is("2: least things", 1, () -> house.things(0));
        IT.is("2: greatest things", 1296, () -> house.things(1));
        IT.is("2: things without repeats", 6, () -> house.things(2));
        for (int bad : new int[] {LOW, -1, 0, 5, HIGH}) {
            IT.refuses("2: places " + bad, Checks.ARGUMENT, house, () -> house.codes(bad, 6, true));
        }
        for (int bad : new int[] {LOW, -1, 0, 7, HIGH}) {
            IT.refuses("2: colours " + bad, Checks.ARGUMENT, house, () -> house.codes(1, bad, true));
        }
        IT.refuses("2: no code", Checks.ARGUMENT, house, () -> house.codes(4, 3, false));
        IT.is("2: as many colours as places", 3, () -> house.codes(4, 4, false));
        IT.is("2: 24 orders", 24, () -> house.things(3));
        Guesswright full = Houses.full();
        IT.refuses("2: full", Checks.STATE, full, () -> full.codes(2, 2, true));
        IT.refuses("2: full, but out of range", Checks.ARGUMENT, full, () -> full.codes(5, 2, true));
        IT.refuses("2: full, but no code", Checks.ARGUMENT, full, () -> full.codes(3, 2, false));
    }

    private static void codeOrder() {
        Guesswright house = Houses.ofCodes(2, 3, false);
        int[] due = {1, 2, 3, 5, 6, 7};
        for (int thing = 0; thing < due.length; thing++) {
            int at = thing;
            IT.is("2: code " + thing, due[thing], () -> house.told(0, at));
            IT.is("2: it asks itself", 20, () -> house.answer(0, at, due[at]));
        }
    }

    // ---- promise 3

    private static void numbers() {
        Guesswright house = new Guesswright();
        IT.is("3: one number", 0, () -> house.numbers(1));
        IT.is("3: 64 numbers", 1, () -> house.numbers(64));
        IT.is("3: things", 64, () -> house.things(1));
        IT.is("3: bound", 1, () -> house.answer(1, 63, 63));
        IT.is("3: below the bound", 0, () -> house.answer(1, 62, 63));
        IT.is("3: at least 1", 0, () -> house.answer(1, 0, 1));
        IT.is("3: remainder", 8, () -> house.answer(1, 62, 109));
        IT.is("3: remainder by 2", 1, () -> house.answer(1, 63, 102));
        IT.is("3: remainder for one number", 0, () -> house.answer(0, 0, 109));
        for (int bad : new int[] {LOW, -1, 0, 65, HIGH}) {
            IT.refuses("3: numbers " + bad, Checks.ARGUMENT, house, () -> house.numbers(bad));
        }
        Guesswright full = Houses.full();
        IT.refuses("3: full", Checks.STATE, full, () -> full.numbers(3));
        IT.refuses("3: full, but out of range", Checks.ARGUMENT, full, () -> full.numbers(65));
    }

    // ---- promise 4

    private static void coins() {
        Guesswright house = new Guesswright();
        IT.is("4: 2 coins", 0, () -> house.coins(2, false));
        IT.is("4: 7 coins", 1, () -> house.coins(7, true));
        IT.is("4: things of 2", 4, () -> house.things(0));
        IT.is("4: questions of 2", 2, () -> house.questions(0));
        IT.is("4: things of 7", 15, () -> house.things(1));
        IT.is("4: questions of 7", 392, () -> house.questions(1));
        for (int bad : new int[] {LOW, 0, 1, 8, HIGH}) {
            IT.refuses("4: coins " + bad, Checks.ARGUMENT, house, () -> house.coins(bad, true));
        }
        Guesswright full = Houses.full();
        IT.refuses("4: full", Checks.STATE, full, () -> full.coins(3, false));
        IT.refuses("4: full, but out of range", Checks.ARGUMENT, full, () -> full.coins(8, false));
    }

    // ---- promise 5

    private static void fleets() {
        Guesswright house = new Guesswright();
        IT.is("5: one cell", 0, () -> house.fleets(1, 1, 1, false));
        IT.is("5: it is across alone", 1, () -> house.things(0));
        IT.is("5: large", 1, () -> house.fleets(5, 5, 5, false));
        IT.is("5: its things", 10, () -> house.things(1));
        IT.is("5: three ships", 2, () -> house.fleets(3, 3, 333, true));
        IT.is("5: three across or three down", 2, () -> house.things(2));
        for (int bad : new int[] {LOW, -1, 0, 6, HIGH}) {
            IT.refuses("5: width " + bad, Checks.ARGUMENT, house, () -> house.fleets(bad, 3, 1, true));
            IT.refuses("5: height " + bad, Checks.ARGUMENT, house, () -> house.fleets(3, bad, 1, true));
        }
        for (int bad : new int[] {LOW, -11, -1, 0, 6, 10, 16, 61, 101, 110, 556, 611, 1111, HIGH}) {
            IT.refuses("5: ships " + bad, Checks.ARGUMENT, house, () -> house.fleets(5, 5, bad, true));
        }
        IT.refuses("5: too long", Checks.ARGUMENT, house, () -> house.fleets(2, 2, 3, true));
        IT.refuses("5: no room apart", Checks.ARGUMENT, house, () -> house.fleets(2, 2, 11, false));
        IT.refuses("5: 2300 ways", Checks.ARGUMENT, house, () -> house.fleets(5, 5, 111, true));
        IT.refuses("5: 2035 ways", Checks.ARGUMENT, house, () -> house.fleets(3, 5, 122, true));
        IT.is("5: 1140 ways", 3, () -> house.fleets(5, 4, 111, true));
        IT.is("5: their number", 1140, () -> house.things(3));
        IT.is("5: as near to 2000 as it gets", 4, () -> house.fleets(5, 5, 144, true));
        IT.is("5: that is", 1972, () -> house.things(4));
        Guesswright full = Houses.full();
        IT.refuses("5: full", Checks.STATE, full, () -> full.fleets(2, 2, 2, true));
        IT.refuses("5: full, but out of range", Checks.ARGUMENT, full, () -> full.fleets(2, 2, 6, true));
        IT.refuses("5: full, but no way", Checks.ARGUMENT, full, () -> full.fleets(2, 2, 3, true));
        IT.refuses("5: full, but too many", Checks.ARGUMENT, full, () -> full.fleets(5, 5, 111, true));
    }

    private static void fleetOrder() {
        Guesswright house = Houses.ofFleets(2, 2, 2, true);
        int[] due = {3, 5, 10, 12};
        for (int thing = 0; thing < due.length; thing++) {
            int at = thing;
            IT.is("5: place " + thing, due[thing], () -> house.told(0, at));
        }
        IT.is("5: ships of one size, one ahead", 1, () -> house.fleets(3, 1, 11, false));
        IT.is("5: lie one way", 1, () -> house.things(1));
        IT.is("5: of one size, apart in the list", 2, () -> house.fleets(5, 1, 121, true));
        IT.is("5: lie both ways", 24, () -> house.things(2));
        IT.is("5: by the first ship's place", 0b01111, () -> house.told(2, 0));
        IT.is("5: then by the second one's, then by the third one's", 0b10111, () -> house.told(2, 1));
        IT.is("5: beside at a corner, which may touch", 3, () -> house.fleets(2, 2, 11, true));
        IT.is("5: all pairs of cells", 6, () -> house.things(3));
        IT.is("5: beside at a corner, which may not", 4, () -> house.fleets(3, 3, 11, false));
        IT.is("5: pairs of cells apart", 16, () -> house.things(4));
    }

    // ---- promise 6

    private static void mines() {
        Guesswright house = new Guesswright();
        IT.is("6: none", 0, () -> house.mines(1, 1, 0, false));
        IT.is("6: all", 1, () -> house.mines(5, 5, 25, true));
        IT.is("6: one thing", 1, () -> house.things(0) * house.things(1));
        IT.is("6: sets of 2 in 4", 2, () -> house.mines(2, 2, 2, false));
        int[] due = {3, 5, 6, 9, 10, 12};
        for (int thing = 0; thing < due.length; thing++) {
            int at = thing;
            IT.is("6: set " + thing, due[thing], () -> house.told(2, at));
        }
        IT.is("6: 1820 sets", 3, () -> house.mines(4, 4, 4, false));
        IT.is("6: their number", 1820, () -> house.things(3));
        IT.is("6: the last one", 0xF000, () -> house.told(3, 1819));
        IT.refuses("6: 2300 sets", Checks.ARGUMENT, house, () -> house.mines(5, 5, 3, false));
        IT.refuses("6: 6435 sets", Checks.ARGUMENT, house, () -> house.mines(5, 3, 7, false));
        for (int bad : new int[] {LOW, -1, 0, 6, HIGH}) {
            IT.refuses("6: width " + bad, Checks.ARGUMENT, house, () -> house.mines(bad, 1, 1, false));
            IT.refuses("6: height " + bad, Checks.ARGUMENT, house, () -> house.mines(1, bad, 1, false));
        }
        for (int bad : new int[] {LOW, -1, 7, HIGH}) {
            IT.refuses("6: mines " + bad, Checks.ARGUMENT, house, () -> house.mines(2, 3, bad, false));
        }
        Guesswright full = Houses.full();
        IT.refuses("6: full", Checks.STATE, full, () -> full.mines(2, 2, 2, true));
        IT.refuses("6: full, but out of range", Checks.ARGUMENT, full, () -> full.mines(2, 2, 5, true));
        IT.refuses("6: full, but too many", Checks.ARGUMENT, full, () -> full.mines(5, 5, 12, true));
    }

    private static void minesOnRings() {
        Guesswright house = Houses.ofMines(4, 4, 1, true);
        IT.is("6: across both edges", 1, () -> house.answer(0, 15, 0));
        IT.is("6: across one edge", 1, () -> house.answer(0, 3, 0));
        IT.is("6: two away", 0, () -> house.answer(0, 2, 0));
        house.mines(4, 4, 1, false);
        IT.is("6: no ring, no edge crossed", 0, () -> house.answer(1, 15, 0));
        IT.is("6: no row crossed", 0, () -> house.answer(1, 4, 3));
        house.mines(2, 2, 3, true);
        IT.is("6: each once on a ring of 2", 3, () -> house.answer(2, 3, 0));
        house.mines(1, 1, 0, true);
        IT.is("6: the cell itself never", 0, () -> house.answer(3, 0, 0));
        house.mines(1, 3, 2, true);
        IT.is("6: a ring one wide", 2, () -> house.answer(4, 2, 0));
    }

    // ---- promise 7

    private static void vertices() {
        Guesswright house = new Guesswright();
        IT.is("7: 20 vertices", 0, () -> house.vertices(20));
        IT.is("7: an edge to the last", 1, () -> house.edge(0, 19));
        IT.is("7: another", 2, () -> house.edge(0, 1));
        for (int bad : new int[] {LOW, -1, 0, 21, HIGH}) {
            IT.refuses("7: vertices " + bad, Checks.ARGUMENT, house, () -> house.vertices(bad));
        }
        IT.is("7: one vertex", 2, () -> house.vertices(1));
        IT.refuses("7: the others are gone", Checks.INDEX, house, () -> house.edge(0, 1));
        IT.is("7: 2 vertices", 0, () -> house.vertices(2));
        IT.is("7: the edge was taken out", 1, () -> house.edge(0, 1));
    }

    // ---- promise 8

    private static void edge() {
        Guesswright house = new Guesswright();
        house.vertices(3);
        IT.is("8: put in", 1, () -> house.edge(0, 2));
        IT.is("8: a second one", 2, () -> house.edge(1, 0));
        IT.is("8: taken out from the other end", 1, () -> house.edge(2, 0));
        IT.is("8: put in anew", 2, () -> house.edge(2, 0));
        for (int bad : new int[] {LOW, -1, 3, HIGH}) {
            IT.refuses("8: vertex " + bad, Checks.INDEX, house, () -> house.edge(bad, 0));
            IT.refuses("8: other " + bad, Checks.INDEX, house, () -> house.edge(0, bad));
            IT.refuses("8: both " + bad, Checks.INDEX, house, () -> house.edge(bad, bad));
        }
        IT.refuses("8: the same", Checks.ARGUMENT, house, () -> house.edge(2, 2));
    }

    // ---- promise 9

    private static void graph() {
        Guesswright house = new Guesswright();
        house.vertices(5);
        house.edge(0, 1);
        house.edge(1, 2);
        house.edge(2, 3);
        house.edge(3, 0);
        IT.is("9: a ring and one alone", 0, house::graph);
        IT.is("9: itself", 0, () -> house.answer(0, 1, 1));
        IT.is("9: beside", 1, () -> house.answer(0, 3, 0));
        IT.is("9: across", 2, () -> house.answer(0, 1, 3));
        IT.is("9: no way", 99, () -> house.answer(0, 4, 0));
        IT.is("9: nor back", 99, () -> house.answer(0, 0, 4));
        house.edge(3, 4);
        IT.is("9: the game stays as it was", 99, () -> house.answer(0, 0, 4));
        IT.is("9: made anew", 1, house::graph);
        IT.is("9: a way now", 2, () -> house.answer(1, 0, 4));
        Guesswright path = new Guesswright();
        path.vertices(20);
        for (int vertex = 1; vertex < 20; vertex++) {
            path.edge(vertex - 1, vertex);
        }
        path.graph();
        IT.is("9: the longest way", 19, () -> path.answer(0, 0, 19));
        Guesswright full = Houses.full();
        IT.refuses("9: full", Checks.STATE, full, full::graph);
    }

    // ---- promise 10

    private static void clear() {
        Guesswright house = Houses.full();
        house.vertices(2);
        house.edge(0, 1);
        house.setLies(7, 3);
        house.take(7, 1, 0);
        IT.is("10: eight games", 8, house::clear);
        IT.refuses("10: gone", Checks.INDEX, house, () -> house.things(0));
        IT.is("10: none", 0, house::clear);
        IT.is("10: the graph stays", 0, house::graph);
        IT.is("10: with its edge", 1, () -> house.answer(0, 0, 1));
        for (int game = 1; game < 8; game++) {
            house.numbers(8);
        }
        IT.is("10: nothing is left of the lies", 0, () -> house.setLies(7, 0));
        IT.is("10: nor of the answers", 0, () -> house.liesOf(7, 4));
        IT.refuses("10: nor of what was taken", Checks.MISSING, house, () -> house.back(7));
    }

    // ---- promise 11

    private static void setLies() {
        Guesswright house = Houses.ofNumbers(4);
        IT.is("11: 0 at first", 0, () -> house.setLies(0, 3));
        IT.is("11: 3 before", 3, () -> house.setLies(0, 1));
        for (int bad : new int[] {LOW, -1, 4, HIGH}) {
            IT.refuses("11: lies " + bad, Checks.ARGUMENT, house, () -> house.setLies(0, bad));
            IT.refuses("11: lies and game " + bad, Checks.INDEX, house, () -> house.setLies(bad, bad));
        }
        house.take(0, 2, 1);
        IT.refuses("11: taken", Checks.UNSUPPORTED, house, () -> house.setLies(0, 1));
        IT.refuses("11: taken, but out of range", Checks.ARGUMENT, house, () -> house.setLies(0, 4));
        house.back(0);
        IT.is("11: taken back", 1, () -> house.setLies(0, 0));
        IT.refuses("11: no game", Checks.INDEX, house, () -> house.setLies(1, 0));
    }

    // ---- promise 12

    private static void things() {
        Guesswright house = Houses.full();
        IT.is("12: the first game", 1, () -> house.things(0));
        IT.is("12: the last game", 8, () -> house.things(7));
        house.take(7, 4, 1);
        IT.is("12: in all", 8, () -> house.things(7));
        for (int bad : new int[] {LOW, -1, 8, HIGH}) {
            IT.refuses("12: game " + bad, Checks.INDEX, house, () -> house.things(bad));
        }
    }

    // ---- promise 13

    private static void left() {
        Guesswright house = Houses.ofNumbers(8);
        IT.is("13: all", 8, () -> house.left(0));
        house.take(0, 6, 1);
        IT.is("13: two", 2, () -> house.left(0));
        house.back(0);
        house.setLies(0, 1);
        house.take(0, 6, 1);
        IT.is("13: all may be left by one lie", 8, () -> house.left(0));
        house.take(0, 6, 1);
        IT.is("13: taken twice, it counts twice", 2, () -> house.left(0));
        for (int bad : new int[] {LOW, -1, 1, HIGH}) {
            IT.refuses("13: game " + bad, Checks.INDEX, house, () -> house.left(bad));
        }
    }

    // ---- promise 14

    private static void leftAt() {
        Guesswright house = Houses.ofNumbers(9);
        house.take(0, 103, 2);
        IT.is("14: the first", 2, () -> house.leftAt(0, 0));
        IT.is("14: the second", 5, () -> house.leftAt(0, 1));
        IT.is("14: the last", 8, () -> house.leftAt(0, 2));
        for (int bad : new int[] {LOW, -1, 3, HIGH}) {
            IT.refuses("14: index " + bad, Checks.MISSING, house, () -> house.leftAt(0, bad));
            IT.refuses("14: no game, nor index " + bad, Checks.INDEX, house, () -> house.leftAt(1, bad));
        }
        IT.refuses("14: game -1", Checks.INDEX, house, () -> house.leftAt(-1, 0));
    }

    // ---- promise 15

    private static void told() {
        Guesswright house = Houses.ofCoins(3, true);
        int[] due = {-1, 0, 1, 2, 3, 4, 5};
        for (int thing = 0; thing < due.length; thing++) {
            int at = thing;
            IT.is("15: coin " + thing, due[thing], () -> house.told(0, at));
        }
        house.coins(2, false);
        IT.is("15: none alike", 3, () -> house.told(1, 3));
        house.fleets(3, 2, 21, true);
        IT.is("15: a fleet", 0b111, () -> house.told(2, 0));
        house.mines(3, 2, 1, true);
        IT.is("15: mines", 1 << 5, () -> house.told(3, 5));
        house.numbers(5);
        IT.is("15: a number", 4, () -> house.told(4, 4));
        house.vertices(6);
        house.graph();
        IT.is("15: a vertex", 5, () -> house.told(5, 5));
        house.codes(3, 4, true);
        IT.is("15: a code", 63, () -> house.told(6, 63));
        house.mines(5, 5, 1, false);
        IT.is("15: the highest cell", 1 << 24, () -> house.told(7, 24));
        for (int bad : new int[] {LOW, -1, 7, HIGH}) {
            IT.refuses("15: thing " + bad, Checks.INDEX, house, () -> house.told(0, bad));
        }
        IT.refuses("15: game 8", Checks.INDEX, house, () -> house.told(8, 0));
        IT.refuses("15: game -1", Checks.INDEX, house, () -> house.told(-1, 0));
    }

    // ---- promise 16

    private static void liesOf() {
        Guesswright house = Houses.ofNumbers(4);
        house.setLies(0, 1);
        IT.is("16: none", 0, () -> house.liesOf(0, 3));
        house.take(0, 2, 0);
        IT.is("16: one", 1, () -> house.liesOf(0, 3));
        house.take(0, 2, 0);
        house.take(0, 1, 0);
        IT.is("16: three, though it is not left", 3, () -> house.liesOf(0, 3));
        IT.is("16: one of three", 1, () -> house.liesOf(0, 1));
        IT.is("16: none of three", 0, () -> house.liesOf(0, 0));
        house.back(0);
        IT.is("16: taken back", 2, () -> house.liesOf(0, 3));
        for (int bad : new int[] {LOW, -1, 4, HIGH}) {
            IT.refuses("16: thing " + bad, Checks.INDEX, house, () -> house.liesOf(0, bad));
            IT.refuses("16: game " + bad, Checks.INDEX, house, () -> house.liesOf(bad, 0));
        }
    }

    // ---- promise 17

    private static void questions() {
        Guesswright house = Houses.ofNumbers(1);
        IT.is("17: of one number", 8, () -> house.questions(0));
        house.numbers(64);
        IT.is("17: of 64 numbers", 71, () -> house.questions(1));
        house.codes(4, 6, false);
        IT.is("17: of codes", 360, () -> house.questions(2));
        house.coins(6, false);
        IT.is("17: of coins", 140, () -> house.questions(3));
        house.fleets(5, 3, 2, true);
        IT.is("17: of fleets", 15, () -> house.questions(4));
        house.mines(2, 5, 2, true);
        IT.is("17: of mines", 10, () -> house.questions(5));
        house.vertices(20);
        house.graph();
        IT.is("17: of a graph", 20, () -> house.questions(6));
        house.take(1, 102, 0);
        IT.is("17: taking changes none", 71, () -> house.questions(1));
        for (int bad : new int[] {LOW, -1, 7, HIGH}) {
            IT.refuses("17: game " + bad, Checks.INDEX, house, () -> house.questions(bad));
        }
    }

    // ---- promise 18

    private static void answerOfCodes() {
        Guesswright house = Houses.ofCodes(4, 6, true);
        int code0011 = 7;
        int code0012 = 8;
        int code0123 = 36 + 2 * 6 + 3;
        int code1100 = 216 + 36;
        int code1122 = 216 + 36 + 2 * 6 + 2;
        IT.is("18: all right", 40, () -> house.answer(0, code0011, code0011));
        IT.is("18: all in another order", 4, () -> house.answer(0, code1100, code0011));
        IT.is("18: three right", 30, () -> house.answer(0, code0012, code0011));
        IT.is("18: no colour in common", 0, () -> house.answer(0, 1295, code0012));
        IT.is("18: 0012 asked by 1122", 11, () -> house.answer(0, code0012, code1122));
        IT.is("18: the same the other way", 11, () -> house.answer(0, code1122, code0012));
        IT.is("18: 0001 asked by 1000", 22, () -> house.answer(0, 1, 216));
        IT.is("18: one right, one elsewhere", 11, () -> house.answer(0, 1, code0123));
    }

    private static void answerOfCoins() {
        Guesswright house = Houses.ofCoins(3, true);
        int firstLeftLastRight = 1 + 2 * 9;
        int[] due = {0, 1, 2, 0, 0, 2, 1};
        for (int thing = 0; thing < due.length; thing++) {
            int at = thing;
            IT.is("18: coins, thing " + thing, due[thing], () -> house.answer(0, at, firstLeftLastRight));
        }
        for (int bad : new int[] {LOW, -1, 0, 1, 2, 4, 8, 13, 26, 27, HIGH}) {
            IT.refuses("18: not a balance " + bad, Checks.ARGUMENT, house, () -> house.answer(0, 0, bad));
        }
        Guesswright four = Houses.ofCoins(4, false);
        IT.is("18: two against two", 1, () -> four.answer(0, 2, 1 + 3 + 2 * 9 + 2 * 27));
    }

    private static void answerOfGrids() {
        Guesswright house = Houses.ofFleets(4, 1, 21, true);
        int[][] due = {{2, 2, 1, 0}, {2, 2, 0, 1}, {1, 2, 2, 0}, {0, 2, 2, 1}, {1, 0, 2, 2}, {0, 1, 2, 2}};
        house.fleets(5, 5, 555, true);
        house.fleets(3, 1, 111, true);
        house.fleets(5, 1, 122, true);
        for (int thing = 0; thing < due.length; thing++) {
            for (int cell = 0; cell < 4; cell++) {
                int at = thing;
                int asked = cell;
                IT.is("18: fleet " + thing + " at " + cell, due[thing][cell], () -> house.answer(0, at, asked));
            }
        }
        IT.is("18: the third ship", 5, () -> house.answer(1, 0, 10));
        IT.is("18: behind all", 0, () -> house.answer(1, 0, 15));
        IT.is("18: small ships", 1, () -> house.answer(2, 0, 2));
        IT.is("18: first of 1, 2 and 2", 1, () -> house.answer(3, 0, 0));
        IT.is("18: third of 1, 2 and 2", 2, () -> house.answer(3, 0, 4));
        house.mines(3, 3, 8, false);
        IT.is("18: eight mines beside", 8, () -> house.answer(4, 4, 4));
        IT.is("18: a mine", 9, () -> house.answer(4, 4, 0));
        house.mines(3, 3, 1, false);
        IT.is("18: at a corner", 1, () -> house.answer(5, 4, 8));
        IT.is("18: afar", 0, () -> house.answer(5, 0, 8));
    }

    private static void answerRefused() {
        Guesswright house = Houses.ofNumbers(5);
        for (int bad : new int[] {LOW, -1, 0, 5, 100, 101, 110, HIGH}) {
            IT.refuses("18: no question " + bad, Checks.ARGUMENT, house, () -> house.answer(0, 0, bad));
            IT.refuses("18: nor thing, " + bad, Checks.INDEX, house, () -> house.answer(0, 5, bad));
            IT.refuses("18: nor game, " + bad, Checks.INDEX, house, () -> house.answer(1, 0, bad));
        }
        IT.refuses("18: thing -1", Checks.INDEX, house, () -> house.answer(0, -1, 1));
        house.codes(2, 3, false);
        for (int bad : new int[] {-1, 0, 4, 8, 9}) {
            IT.refuses("18: no code " + bad, Checks.ARGUMENT, house, () -> house.answer(1, 0, bad));
        }
        house.mines(2, 2, 1, false);
        house.fleets(2, 2, 1, false);
        house.graph();
        for (int game = 2; game < 5; game++) {
            int at = game;
            IT.refuses("18: no cell or vertex, game " + game, Checks.ARGUMENT, house, () -> house.answer(at, 0, 4));
            IT.refuses("18: nor below, game " + game, Checks.ARGUMENT, house, () -> house.answer(at, 0, -1));
        }
    }

    // ---- promise 19

    private static void take() {
        Guesswright house = Houses.ofNumbers(8);
        IT.is("19: half", 4, () -> house.take(0, 4, 1));
        IT.is("19: a quarter", 2, () -> house.take(0, 102, 0));
        IT.refuses("19: nothing left", Checks.UNSUPPORTED, house, () -> house.take(0, 102, 1));
        IT.refuses("19: an answer that nothing gives", Checks.UNSUPPORTED, house, () -> house.take(0, 102, 7));
        IT.refuses("19: lowest answer", Checks.UNSUPPORTED, house, () -> house.take(0, 102, LOW));
        IT.refuses("19: highest answer", Checks.UNSUPPORTED, house, () -> house.take(0, 102, HIGH));
        for (int bad : new int[] {LOW, -1, 0, 8, 101, 110, HIGH}) {
            IT.refuses("19: question " + bad, Checks.ARGUMENT, house, () -> house.take(0, bad, 99));
            IT.refuses("19: nor game, " + bad, Checks.INDEX, house, () -> house.take(1, bad, 99));
        }
        IT.refuses("19: game -1", Checks.INDEX, house, () -> house.take(-1, 1, 0));
        house.numbers(3);
        house.setLies(1, 1);
        IT.is("19: a lie leaves all", 3, () -> house.take(1, 1, HIGH));
        IT.refuses("19: two lies leave none", Checks.UNSUPPORTED, house, () -> house.take(1, 1, HIGH));
        IT.is("19: a true one", 2, () -> house.take(1, 1, 1));
    }

    private static void takeFull() {
        Guesswright house = Houses.ofNumbers(4);
        for (int taken = 1; taken <= 30; taken++) {
            IT.is("19: answer " + taken, 2, () -> house.take(0, 102, 1));
        }
        IT.refuses("19: 30 are taken", Checks.STATE, house, () -> house.take(0, 102, 1));
        IT.refuses("19: 30 are taken, and nothing left", Checks.UNSUPPORTED, house, () -> house.take(0, 102, 0));
        IT.refuses("19: 30 are taken, and no question", Checks.ARGUMENT, house, () -> house.take(0, 101, 0));
        IT.refuses("21: 30 are taken", Checks.STATE, house, () -> house.adverse(0, 102));
        IT.refuses("21: 30 are taken, and no question", Checks.ARGUMENT, house, () -> house.adverse(0, 101));
        for (int taken = 1; taken < 30; taken++) {
            IT.is("20: back " + taken, 2, () -> house.back(0));
        }
        IT.is("20: the last one back", 4, () -> house.back(0));
        IT.refuses("20: no more", Checks.MISSING, house, () -> house.back(0));
    }

    // ---- promise 20

    private static void back() {
        Guesswright house = Houses.ofNumbers(8);
        IT.refuses("20: none taken", Checks.MISSING, house, () -> house.back(0));
        house.take(0, 4, 1);
        house.take(0, 6, 0);
        IT.is("20: the last one goes first", 4, () -> house.back(0));
        IT.is("20: things of the first stay", 4, () -> house.leftAt(0, 0));
        house.adverse(0, 102);
        IT.is("20: adverse too", 4, () -> house.back(0));
        IT.is("20: all", 8, () -> house.back(0));
        IT.is("20: taken anew", 4, () -> house.take(0, 4, 0));
        for (int bad : new int[] {LOW, -1, 1, HIGH}) {
            IT.refuses("20: game " + bad, Checks.INDEX, house, () -> house.back(bad));
        }
    }

    // ---- promise 21

    private static void adverse() {
        Guesswright house = Houses.ofNumbers(9);
        IT.is("21: the greatest part", 1, () -> house.adverse(0, 4));
        IT.is("21: it was taken", 5, () -> house.left(0));
        house.back(0);
        IT.is("21: of several the least answer", 0, () -> house.adverse(0, 103));
        IT.is("21: three are left", 3, () -> house.left(0));
        for (int bad : new int[] {LOW, -1, 0, 9, 101, 110, HIGH}) {
            IT.refuses("21: question " + bad, Checks.ARGUMENT, house, () -> house.adverse(0, bad));
            IT.refuses("21: nor game, " + bad, Checks.INDEX, house, () -> house.adverse(-1, bad));
        }
        house.vertices(4);
        house.graph();
        IT.is("21: 99 of a graph", 99, () -> house.adverse(1, 2));
        house.numbers(4);
        house.setLies(2, 1);
        house.take(2, 3, 1);
        IT.is("21: those by lies count", 0, () -> house.adverse(2, 3));
        IT.is("21: which is a lie of 3", 1, () -> house.liesOf(2, 3));
    }

    // ---- promise 22

    private static void draw() {
        Guesswright house = Houses.ofNumbers(64);
        IT.is("22: seed 0", 0, () -> house.draw(0, 0));
        IT.is("22: seed 1", (int) (1103527590L / 65536 % 64), () -> house.draw(0, 1));
        long last = (99999L * 1103515245L + 12345) % (1L << 31);
        IT.is("22: the greatest seed", (int) (last / 65536 % 64), () -> house.draw(0, 99999));
        house.take(0, 107, 3);
        IT.is("22: of those left", 3 + 7 * (16838 % 9), () -> house.draw(0, 1));
        for (int bad : new int[] {LOW, -1, 100000, HIGH}) {
            IT.refuses("22: seed " + bad, Checks.ARGUMENT, house, () -> house.draw(0, bad));
            IT.refuses("22: nor game, seed " + bad, Checks.INDEX, house, () -> house.draw(1, bad));
        }
        IT.refuses("22: game -1", Checks.INDEX, house, () -> house.draw(-1, 0));
    }

    // ---- promise 23

    private static void weigh() {
        Guesswright house = Houses.ofNumbers(10);
        IT.is("23: worst", 4L, () -> house.weigh(0, 103, 'w'));
        IT.is("23: squares", 34L, () -> house.weigh(0, 103, 's'));
        IT.is("23: parts", 3L, () -> house.weigh(0, 103, 'p'));
        house.take(0, 4, 1);
        IT.is("23: of those left", 2L, () -> house.weigh(0, 103, 'w'));
        IT.is("23: one part", 1L, () -> house.weigh(0, 4, 'p'));
        house.mines(4, 4, 4, false);
        IT.is("23: many squares, as their parts tell", squaresOfParts(house), () -> house.weigh(1, 0, 's'));
        IT.is("23: a mine, or 0 to 3 beside a corner", 5L, () -> house.weigh(1, 0, 'p'));
        for (char bad : new char[] {0, 'W', 'S', 'P', 'v', 'x', 'q', 65535}) {
            IT.refuses("23: letter " + (int) bad, Checks.ARGUMENT, house, () -> house.weigh(0, 103, bad));
            IT.refuses("23: nor game, letter " + (int) bad, Checks.INDEX, house, () -> house.weigh(2, 103, bad));
        }
        for (int bad : new int[] {LOW, -1, 0, 10, 101, 110, HIGH}) {
            IT.refuses("23: question " + bad, Checks.ARGUMENT, house, () -> house.weigh(0, bad, 'w'));
        }
    }

    private static long squaresOfParts(Guesswright house) {
        long sum = 0;
        for (int answer = 0; answer <= 9; answer++) {
            long part = house.part(1, 0, answer);
            sum += part * part;
        }
        return sum;
    }

    // ---- promise 24

    private static void part() {
        Guesswright house = Houses.ofNumbers(10);
        IT.is("24: remainder 0", 4, () -> house.part(0, 103, 0));
        IT.is("24: remainder 2", 3, () -> house.part(0, 103, 2));
        for (int other : new int[] {LOW, -1, 3, 100, HIGH}) {
            IT.is("24: answer " + other, 0, () -> house.part(0, 103, other));
        }
        house.take(0, 3, 1);
        IT.is("24: of those left", 3, () -> house.part(0, 103, 0));
        for (int bad : new int[] {LOW, -1, 0, 10, 101, 110, HIGH}) {
            IT.refuses("24: question " + bad, Checks.ARGUMENT, house, () -> house.part(0, bad, 0));
            IT.refuses("24: nor game, " + bad, Checks.INDEX, house, () -> house.part(1, bad, 0));
        }
    }

    // ---- promise 25

    private static void best() {
        Guesswright house = Houses.ofNumbers(2);
        IT.is("25: the lowest one that splits", 1, () -> house.best(0, 'w'));
        house.numbers(1);
        IT.is("25: the lowest one", 102, () -> house.best(1, 'p'));
        house.numbers(64);
        IT.is("25: by 8 is no worse than by 9", 108, () -> house.best(2, 'w'));
        IT.is("25: by 9 in squares", 109, () -> house.best(2, 's'));
        IT.is("25: by 9 in parts", 109, () -> house.best(2, 'p'));
        house.take(2, 109, 8);
        house.take(2, 32, 1);
        IT.is("25: 35, 44, 53, 62 apart by the lowest", 104, () -> house.best(2, 'w'));
        for (char bad : new char[] {0, 'W', 'x', 'o', 65535}) {
            IT.refuses("25: letter " + (int) bad, Checks.ARGUMENT, house, () -> house.best(0, bad));
            IT.refuses("25: nor game, letter " + (int) bad, Checks.INDEX, house, () -> house.best(3, bad));
        }
        IT.refuses("25: game -1", Checks.INDEX, house, () -> house.best(-1, 'w'));
    }

    private static void bestOfCodes() {
        Guesswright house = Houses.ofCodes(4, 6, true);
        IT.is("25: Knuth's first code, 0011", 7, () -> house.best(0, 'w'));
        IT.is("25: its worst part", 256L, () -> house.weigh(0, 7, 'w'));
        IT.is("25: 0012 in squares", 8, () -> house.best(0, 's'));
        IT.is("25: its squares", 240108L, () -> house.weigh(0, 8, 's'));
        IT.is("25: 0012 in parts", 8, () -> house.best(0, 'p'));
        IT.is("25: its parts", 14L, () -> house.weigh(0, 8, 'p'));
        Guesswright few = Houses.ofCodes(1, 4, true);
        few.take(0, 0, 0);
        IT.is("25: a code that is left goes ahead of lower ones", 1, () -> few.best(0, 'w'));
        few.take(0, 1, 0);
        IT.is("25: of two left the lower one", 2, () -> few.best(0, 's'));
        few.take(0, 2, 0);
        IT.is("25: the one that is left", 3, () -> few.best(0, 'p'));
        Guesswright lies = Houses.ofCodes(1, 3, true);
        lies.setLies(0, 1);
        lies.take(0, 0, 0);
        IT.is("25: one lie leaves it", 0, () -> lies.best(0, 'w'));
        lies.take(0, 0, 0);
        IT.is("25: two lies do not", 1, () -> lies.best(0, 'w'));
    }

    // ---- promise 26

    private static void find() {
        Guesswright house = Houses.ofCodes(4, 6, true);
        IT.is("26: at once", 1, () -> Houses.ofCodes(1, 2, true).find(0, 1, 'w'));
        // Knuth's way needs five at most, the last of which asks for what is known.
        int most = 0;
        for (int thing = 0; thing < 1296; thing += 5) {
            most = Math.max(most, house.find(0, thing, 'w'));
        }
        IT.holds("26: Knuth's way finds all by four", most == 4);
        IT.is("26: the game stays", 1296, () -> house.left(0));
        Guesswright lone = Houses.ofLoneVertices(14);
        IT.is("26: the first goes first", 1, () -> lone.find(0, 0, 'w'));
        IT.is("26: one after another", 13, () -> lone.find(0, 13, 's'));
        IT.is("26: as long for the last but one", 13, () -> lone.find(0, 12, 'p'));
        lone.take(0, 5, 0);
        IT.is("26: alone", 0, () -> lone.find(0, 5, 'p'));
        IT.refuses("26: not left", Checks.UNSUPPORTED, lone, () -> lone.find(0, 6, 'p'));
        IT.refuses("26: not left, but no letter", Checks.ARGUMENT, lone, () -> lone.find(0, 6, 'x'));
        for (int bad : new int[] {LOW, -1, 14, HIGH}) {
            IT.refuses("26: thing " + bad, Checks.INDEX, lone, () -> lone.find(0, bad, 'x'));
            IT.refuses("26: game " + bad, Checks.INDEX, lone, () -> lone.find(bad, 5, 'x'));
        }
        Guesswright alike = Houses.ofFleets(2, 2, 22, true);
        IT.refuses("26: the best leaves all", Checks.UNSUPPORTED, alike, () -> alike.find(0, 0, 'w'));
        Guesswright lies = Houses.ofNumbers(4);
        lies.setLies(0, 1);
        IT.refuses("26: lies", Checks.UNSUPPORTED, lies, () -> lies.find(0, 0, 's'));
        IT.refuses("26: lies, but no letter", Checks.ARGUMENT, lies, () -> lies.find(0, 0, 't'));
    }

    // ---- promise 27

    private static void depth() {
        IT.is("27: one thing", 0, () -> Houses.ofNumbers(1).depth(0));
        IT.is("27: two things", 1, () -> Houses.ofNumbers(2).depth(0));
        IT.is("27: nine remainders", 1, () -> Houses.ofNumbers(9).depth(0));
        IT.is("27: ten numbers", 2, () -> Houses.ofNumbers(10).depth(0));
        IT.is("27: 14 numbers", 2, () -> Houses.ofNumbers(14).depth(0));
        IT.is("27: 12 kinds of coins", 3, () -> Houses.ofCoins(6, false).depth(0));
        IT.is("27: 13 kinds of coins", 3, () -> Houses.ofCoins(6, true).depth(0));
        IT.is("27: 14 kinds of coins", 3, () -> Houses.ofCoins(7, false).depth(0));
        IT.is("27: three coins", 2, () -> Houses.ofCoins(3, false).depth(0));
        Guesswright house = Houses.ofNumbers(15);
        IT.refuses("27: 15 are left", Checks.UNSUPPORTED, house, () -> house.depth(0));
        house.take(0, 1, 1);
        IT.is("27: 14 are left", 2, () -> house.depth(0));
        Guesswright lies = Houses.ofNumbers(4);
        lies.setLies(0, 1);
        IT.refuses("27: lies", Checks.UNSUPPORTED, lies, () -> lies.depth(0));
        for (int bad : new int[] {LOW, -1, 1, HIGH}) {
            IT.refuses("27: game " + bad, Checks.INDEX, lies, () -> lies.depth(bad));
        }
        Guesswright alike = Houses.ofFleets(2, 2, 22, true);
        IT.refuses("27: not told apart", Checks.MISSING, alike, () -> alike.depth(0));
        alike.setLies(0, 2);
        IT.refuses("27: not told apart, but lies", Checks.UNSUPPORTED, alike, () -> alike.depth(0));
        Guesswright twoCoins = Houses.ofCoins(2, false);
        IT.refuses("27: which coin of two", Checks.MISSING, twoCoins, () -> twoCoins.depth(0));
    }

    private static void depthOfGraphs() {
        for (int vertices = 1; vertices <= 14; vertices++) {
            int many = vertices;
            IT.is("27: lone vertices " + vertices, vertices - 1, () -> Houses.ofLoneVertices(many).depth(0));
        }
        Guesswright house = new Guesswright();
        house.vertices(14);
        for (int vertex = 1; vertex < 14; vertex++) {
            house.edge(0, vertex);
        }
        house.graph();
        IT.is("27: a star", 12, () -> house.depth(0));
        house.vertices(14);
        for (int vertex = 1; vertex < 14; vertex++) {
            house.edge(vertex - 1, vertex);
        }
        house.graph();
        IT.is("27: a path", 1, () -> house.depth(1));
        house.vertices(14);
        for (int vertex = 1; vertex < 14; vertex += 2) {
            house.edge(vertex - 1, vertex);
        }
        house.graph();
        IT.is("27: seven pairs", 7, () -> house.depth(2));
    }

    private static void depthFarFromEven() {
        Guesswright fleet = Houses.ofFleets(4, 4, 13, false);
        fleet.take(0, 9, 3);
        IT.is("27: 14 fleets are left", 14, () -> fleet.take(0, 0, 0));
        IT.is("27: of these", 5, () -> fleet.depth(0));
        fleet.take(0, 14, 0);
        IT.is("27: what told nothing changes nothing", 5, () -> fleet.depth(0));
        Guesswright house = new Guesswright();
        house.vertices(13);
        int[] edges = {601, 907, 204, 1008, 805, 507, 300, 510, 809, 102, 5, 103, 1207, 407, 409, 603, 703, 201, 900,
            1208, 1106, 807};
        for (int edge : edges) {
            house.edge(edge / 100, edge % 100);
        }
        house.graph();
        IT.is("27: a graph of 13", 2, () -> house.depth(0));
    }

    // ---- promise 28

    private static void leastSum() {
        IT.is("28: one thing", 0, () -> Houses.ofNumbers(1).leastSum(0));
        IT.is("28: two things", 2, () -> Houses.ofNumbers(2).leastSum(0));
        IT.is("28: nine at once", 9, () -> Houses.ofNumbers(9).leastSum(0));
        IT.is("28: ten, two of them twice", 12, () -> Houses.ofNumbers(10).leastSum(0));
        for (int vertices = 1; vertices <= 10; vertices++) {
            int many = vertices;
            IT.is("28: lone vertices " + vertices, vertices * (vertices + 1) / 2 - 1,
                    () -> Houses.ofLoneVertices(many).leastSum(0));
        }
        IT.is("28: codes of two places", 15, () -> Houses.ofCodes(2, 3, true).leastSum(0));
        Guesswright house = Houses.ofNumbers(11);
        IT.refuses("28: 11 are left", Checks.UNSUPPORTED, house, () -> house.leastSum(0));
        house.take(0, 1, 1);
        IT.is("28: 10 are left", 12, () -> house.leastSum(0));
        Guesswright lies = Houses.ofNumbers(4);
        lies.setLies(0, 1);
        IT.refuses("28: lies", Checks.UNSUPPORTED, lies, () -> lies.leastSum(0));
        for (int bad : new int[] {LOW, -1, 1, HIGH}) {
            IT.refuses("28: game " + bad, Checks.INDEX, lies, () -> lies.leastSum(bad));
        }
        Guesswright alike = Houses.ofFleets(2, 2, 22, true);
        IT.refuses("28: not told apart", Checks.MISSING, alike, () -> alike.leastSum(0));
        alike.setLies(0, 2);
        IT.refuses("28: not told apart, but lies", Checks.UNSUPPORTED, alike, () -> alike.leastSum(0));
    }

    // ---- promise 29

    private static void atOnce() {
        IT.is("29: one thing", 0, () -> Houses.ofNumbers(1).atOnce(0));
        IT.is("29: one question", 1, () -> Houses.ofNumbers(9).atOnce(0));
        IT.is("29: two questions", 2, () -> Houses.ofNumbers(12).atOnce(0));
        IT.is("29: three balances for 12", 3, () -> Houses.ofCoins(6, false).atOnce(0));
        IT.is("29: three lone vertices of four", 3, () -> Houses.ofLoneVertices(4).atOnce(0));
        IT.is("29: a path, and the last pair alone", 2, () -> ofPathBesideTwo(10, 11).atOnce(0));
        IT.is("29: a path, and the last pair but one", 2, () -> ofPathBesideTwo(9, 11).atOnce(0));
        Guesswright five = Houses.ofLoneVertices(5);
        IT.refuses("29: 3 are not enough", Checks.MISSING, five, () -> five.atOnce(0));
        five.setLies(0, 3);
        IT.refuses("29: 3 are not enough, but lies", Checks.UNSUPPORTED, five, () -> five.atOnce(0));
        Guesswright thirteen = Houses.ofNumbers(13);
        IT.refuses("29: 13 are left", Checks.UNSUPPORTED, thirteen, () -> thirteen.atOnce(0));
        thirteen.take(0, 1, 1);
        IT.is("29: 12 are left", 2, () -> thirteen.atOnce(0));
        Guesswright many = Houses.ofCodes(3, 6, true);
        many.take(0, 0, 30);
        IT.refuses("29: 216 questions", Checks.UNSUPPORTED, many, () -> many.atOnce(0));
        Guesswright alike = Houses.ofFleets(2, 2, 22, true);
        IT.refuses("29: never told apart", Checks.MISSING, alike, () -> alike.atOnce(0));
        for (int bad : new int[] {LOW, -1, 1, HIGH}) {
            IT.refuses("29: game " + bad, Checks.INDEX, alike, () -> alike.atOnce(bad));
        }
    }

    /** A game of 12 vertices: two are alone, the others are a path by rising numbers. */
    private static Guesswright ofPathBesideTwo(int one, int other) {
        Guesswright house = new Guesswright();
        house.vertices(12);
        int last = 0;
        for (int vertex = 1; vertex < 12; vertex++) {
            if (vertex != one && vertex != other) {
                house.edge(last, vertex);
                last = vertex;
            }
        }
        house.graph();
        return house;
    }

    // ---- promise 30

    private static void proof() {
        IT.is("30: alone", 0, () -> Houses.ofNumbers(1).proof(0, 0));
        Guesswright house = Houses.ofNumbers(60);
        IT.is("30: the lowest of 60", 1, () -> house.proof(0, 0));
        IT.is("30: one between", 2, () -> house.proof(0, 30));
        IT.is("30: the highest of 60", 1, () -> house.proof(0, 59));
        IT.is("30: itself", 1, () -> Houses.ofLoneVertices(20).proof(0, 7));
        Guesswright many = Houses.ofNumbers(61);
        IT.refuses("30: 61 are left", Checks.UNSUPPORTED, many, () -> many.proof(0, 0));
        many.take(0, 1, 1);
        IT.is("30: 60 are left", 1, () -> many.proof(0, 1));
        IT.refuses("30: not left", Checks.UNSUPPORTED, many, () -> many.proof(0, 0));
        Guesswright codes = Houses.ofCodes(3, 6, true);
        codes.take(0, 0, 30);
        IT.refuses("30: 216 questions", Checks.UNSUPPORTED, codes, () -> codes.proof(0, 0));
        Guesswright alike = Houses.ofFleets(2, 2, 22, true);
        IT.refuses("30: never alone", Checks.MISSING, alike, () -> alike.proof(0, 0));
        alike.setLies(0, 1);
        IT.refuses("30: never alone, but lies", Checks.UNSUPPORTED, alike, () -> alike.proof(0, 0));
        for (int bad : new int[] {LOW, -1, 2, HIGH}) {
            IT.refuses("30: thing " + bad, Checks.INDEX, alike, () -> alike.proof(0, bad));
            IT.refuses("30: game " + bad, Checks.INDEX, alike, () -> alike.proof(bad, 0));
        }
        Guesswright coins = Houses.ofCoins(5, true);
        IT.is("30: that all are alike", 2, () -> coins.proof(0, 0));
        Guesswright mines = Houses.ofMines(5, 5, 2, false);
        mines.take(0, 12, 0);
        IT.refuses("30: more than 60", Checks.UNSUPPORTED, mines, () -> mines.proof(0, mines.leftAt(0, 0)));
    }

    // ---- promise 31

    private static void weight() {
        Guesswright house = Houses.ofNumbers(4);
        IT.is("31: without lies", 4L, () -> house.weight(0, 40));
        house.setLies(0, 3);
        IT.is("31: none to come", 4L, () -> house.weight(0, 0));
        IT.is("31: two to come", 16L, () -> house.weight(0, 2));
        IT.is("31: the most to come", 4L * (1 + 40 + 780 + 9880), () -> house.weight(0, 40));
        house.take(0, 2, 1);
        IT.is("31: two have a lie less", 2L * (1 + 5 + 10 + 10) + 2L * (1 + 5 + 10), () -> house.weight(0, 5));
        for (int bad : new int[] {LOW, -1, 41, HIGH}) {
            IT.refuses("31: questions " + bad, Checks.ARGUMENT, house, () -> house.weight(0, bad));
            IT.refuses("31: game and questions " + bad, Checks.INDEX, house, () -> house.weight(bad, bad));
        }
    }

    // ---- promise 32

    private static void at() {
        Guesswright house = Houses.ofFleets(3, 3, 2, true);
        int[] due = {2, 3, 2, 3, 4, 3, 2, 3, 2};
        for (int cell = 0; cell < 9; cell++) {
            int asked = cell;
            IT.is("32: cell " + cell, due[cell], () -> house.at(0, asked));
        }
        house.take(0, 4, 2);
        IT.is("32: of those left", 0, () -> house.at(0, 0));
        house.mines(2, 2, 1, false);
        IT.is("32: mines", 1, () -> house.at(1, 3));
        house.numbers(3);
        house.graph();
        house.codes(2, 2, true);
        house.coins(2, true);
        for (int bad : new int[] {LOW, -1, 9, 25, 32, HIGH}) {
            IT.refuses("32: cell " + bad, Checks.ARGUMENT, house, () -> house.at(0, bad));
            for (int game = 2; game < 6; game++) {
                int other = game;
                IT.refuses("32: game " + game + " has no grid", Checks.UNSUPPORTED, house, () -> house.at(other, bad));
            }
            IT.refuses("32: nor game, cell " + bad, Checks.INDEX, house, () -> house.at(6, bad));
        }
        IT.refuses("32: game -1", Checks.INDEX, house, () -> house.at(-1, 0));
    }

    // ---- promise 33

    private static void sure() {
        Guesswright house = Houses.ofFleets(5, 5, 5, true);
        IT.is("33: nothing is sure", 0, () -> house.sure(0, false));
        house.take(0, 6, 5);
        IT.is("33: the cell is sure", 1 << 6, () -> house.sure(0, true));
        IT.is("33: without the row and the column", ((1 << 25) - 1) & ~(31 << 5) & ~(0b0001000010000100001000010),
                () -> house.sure(0, false));
        house.take(0, 5, 0);
        IT.is("33: the column is sure", 0b0001000010000100001000010, () -> house.sure(0, true));
        house.mines(5, 5, 25, false);
        IT.is("33: all mines", (1 << 25) - 1, () -> house.sure(1, true));
        IT.is("33: none clear", 0, () -> house.sure(1, false));
        house.mines(5, 5, 0, false);
        IT.is("33: no mines", 0, () -> house.sure(2, true));
        IT.is("33: all clear", (1 << 25) - 1, () -> house.sure(2, false));
        house.numbers(3);
        IT.refuses("33: no grid", Checks.UNSUPPORTED, house, () -> house.sure(3, true));
        for (int bad : new int[] {LOW, -1, 4, HIGH}) {
            IT.refuses("33: game " + bad, Checks.INDEX, house, () -> house.sure(bad, true));
        }
    }

    // ---- promise 34

    private static void isClear() {
        Guesswright row = Houses.ofMines(3, 1, 1, false);
        IT.is("34: a mine at the end, from the other one", true, () -> row.isClear(0, 2, 0));
        IT.is("34: a mine at the end, from the middle", false, () -> row.isClear(0, 2, 1));
        IT.is("34: a mine in the middle, from the end", true, () -> row.isClear(0, 1, 0));
        row.take(0, 0, 0);
        IT.is("34: answers that were taken help", true, () -> row.isClear(0, 2, 1));
        IT.refuses("34: not left", Checks.UNSUPPORTED, row, () -> row.isClear(0, 0, 1));
        IT.refuses("34: a mine there", Checks.ARGUMENT, row, () -> row.isClear(0, 2, 2));
        IT.is("34: the game stays", 1, () -> row.left(0));
        Guesswright house = Houses.ofMines(5, 5, 0, false);
        IT.is("34: no mines", true, () -> house.isClear(0, 0, 24));
        house.mines(5, 5, 1, false);
        IT.is("34: afar all is told", true, () -> house.isClear(1, 24, 0));
        IT.is("34: beside, what is not beside is sure", true, () -> house.isClear(1, 0, 6));
        house.mines(2, 2, 1, false);
        IT.is("34: a corner of four", false, () -> house.isClear(2, 0, 3));
        house.mines(1, 1, 1, false);
        for (int bad : new int[] {LOW, -1, 4, 25, 32, HIGH}) {
            IT.refuses("34: cell " + bad, Checks.ARGUMENT, house, () -> house.isClear(2, 0, bad));
            IT.refuses("34: thing, too", Checks.INDEX, house, () -> house.isClear(2, Math.max(bad, 4), 0));
            IT.refuses("34: game " + bad, Checks.INDEX, house, () -> house.isClear(bad, 0, 0));
        }
        IT.refuses("34: nothing but a mine", Checks.ARGUMENT, house, () -> house.isClear(3, 0, 0));
        house.clear();
        house.mines(2, 2, 1, false);
        house.setLies(0, 1);
        IT.refuses("34: lies", Checks.UNSUPPORTED, house, () -> house.isClear(0, 0, 3));
        IT.refuses("34: lies, and no cell", Checks.UNSUPPORTED, house, () -> house.isClear(0, 0, 4));
        house.fleets(2, 2, 1, true);
        IT.refuses("34: fleets", Checks.UNSUPPORTED, house, () -> house.isClear(1, 0, 3));
        IT.refuses("34: fleets, and no thing", Checks.INDEX, house, () -> house.isClear(1, 4, 3));
        house.numbers(2);
        IT.refuses("34: numbers", Checks.UNSUPPORTED, house, () -> house.isClear(2, 0, 9));
    }

    // ---- promise 35

    private static void bits() {
        Guesswright house = Houses.ofNumbers(64);
        IT.is("35: none", 0, () -> house.bits(0));
        house.take(0, 33, 0);
        IT.is("35: 33 of 64", 0, () -> house.bits(0));
        house.take(0, 32, 0);
        IT.is("35: 32 of 64", 1, () -> house.bits(0));
        house.take(0, 1, 0);
        IT.is("35: 1 of 64", 6, () -> house.bits(0));
        house.mines(4, 4, 4, false);
        for (int cell = 0; cell < 4; cell++) {
            house.take(1, cell, 9);
        }
        IT.is("35: 1 of 1820", 10, () -> house.bits(1));
        house.numbers(1);
        IT.is("35: 1 of 1", 0, () -> house.bits(2));
        for (int bad : new int[] {LOW, -1, 3, HIGH}) {
            IT.refuses("35: game " + bad, Checks.INDEX, house, () -> house.bits(bad));
        }
    }

    // ---- promise 36

    private static void unlike() {
        Guesswright house = new Guesswright();
        IT.is("36: no games", 0, house::unlike);
        house.numbers(4);
        house.codes(1, 4, true);
        IT.is("36: as many things", 1, house::unlike);
        house.numbers(5);
        IT.is("36: one thing more", 2, house::unlike);
        house.take(2, 4, 0);
        IT.is("36: the same left of more", 2, house::unlike);
        house.take(0, 2, 0);
        IT.is("36: fewer left", 3, house::unlike);
        house.take(1, 0, 10);
        IT.is("36: fewer yet", 3, house::unlike);
        house.back(1);
        house.take(1, 3, 0);
        house.take(1, 2, 0);
        IT.is("36: the same left by other answers", 2, house::unlike);
        house.back(0);
        house.take(0, 2, 1);
        IT.is("36: as many, but others", 3, house::unlike);
    }

    // ---- promise 37

    private static void leftShare() {
        Guesswright house = Houses.ofNumbers(3);
        IT.is("37: all", 1.0f, () -> house.leftShare(0));
        house.take(0, 1, 1);
        IT.is("37: two of three", 2f / 3f, () -> house.leftShare(0));
        house.take(0, 2, 1);
        IT.is("37: one of three", 1f / 3f, () -> house.leftShare(0));
        for (int bad : new int[] {LOW, -1, 1, HIGH}) {
            IT.refuses("37: game " + bad, Checks.INDEX, house, () -> house.leftShare(bad));
        }
    }

    // ---- promise 38

    private static void meanLeft() {
        Guesswright house = Houses.ofNumbers(10);
        IT.is("38: thirds", 3.4, () -> house.meanLeft(0, 103));
        house.take(0, 3, 1);
        IT.is("38: of seven", 17.0 / 7.0, () -> house.meanLeft(0, 103));
        for (int bad : new int[] {LOW, -1, 0, 10, 101, 110, HIGH}) {
            IT.refuses("38: question " + bad, Checks.ARGUMENT, house, () -> house.meanLeft(0, bad));
            IT.refuses("38: nor game, " + bad, Checks.INDEX, house, () -> house.meanLeft(1, bad));
        }
    }

    // ---- promise 39

    private static void isTrue() {
        Guesswright house = new Guesswright();
        IT.is("39: no games", true, house::isTrue);
        house.numbers(8);
        house.codes(2, 3, true);
        house.coins(4, true);
        house.fleets(2, 2, 22, true);
        house.mines(3, 2, 2, true);
        house.vertices(7);
        house.edge(0, 1);
        house.graph();
        IT.is("39: six games", true, house::isTrue);
        house.take(0, 4, 1);
        house.setLies(1, 1);
        house.take(1, 1, 20);
        house.take(1, 1, 20);
        house.adverse(2, 7);
        house.adverse(4, 0);
        IT.is("39: answers taken", true, house::isTrue);
        house.back(1);
        IT.is("39: one taken back", true, house::isTrue);
    }
}
