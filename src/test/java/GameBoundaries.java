/** Boundaries that promises 1 to 11 name: making games, the graph, taking all away, lies. */
final class GameBoundaries extends Boundaries {
    private static final int[] OUT_OF_SIDES = {LOW, -5, -1, 0, 6, 25, HIGH};

    GameBoundaries(Sentences sentences, Checks checks) {
        super(sentences, checks);
    }

    @Override
    void all() {
        of(1, "Creates a house without games, with a graph of 1 vertex.", this::newObject);
        codes();
        numbers();
        coins();
        fleets();
        mines();
        graphs();
        clear();
        lies();
    }

    private void newObject() {
        Guesswright house = new Guesswright();
        it.refuses("no game 0", Checks.INDEX, house, () -> house.left(0));
        it.is("no sets of things", 0, house::unlike);
        it.is("nothing is false", true, house::isTrue);
        it.is("nothing is taken away", 0, house::clear);
        it.refuses("one vertex", Checks.ARGUMENT, house, () -> house.edge(0, 0));
        it.refuses("not two", Checks.INDEX, house, () -> house.edge(0, 1));
        it.refuses("nor the other way round", Checks.INDEX, house, () -> house.edge(1, 0));
        it.is("a game of it", 0, house::graph);
        it.is("has one thing", 1, () -> house.things(0));
        it.is("and one question", 1, () -> house.questions(0));
        it.is("without edges", 0, () -> house.vertices(20));
    }

    // ---- eight games, and a ninth

    /** Eight games are made, a ninth is refused, but for wrong arguments ahead of that; then eight are made anew. */
    private void noRoom(int promise, InHouse maker, InHouse... refusedAhead) {
        of(promise, "Throws `IllegalStateException` if there are 8 games", () -> {
            Guesswright house = new Guesswright();
            for (int round = 0; round < 2; round++) {
                fill(house, maker);
                it.refuses("a ninth one", Checks.STATE, house, () -> maker.in(house));
                it.refuses("a ninth one once more", Checks.STATE, house, () -> maker.in(house));
                for (InHouse other : refusedAhead) {
                    it.refuses("a ninth one that is wrong", Checks.ARGUMENT, house, () -> other.in(house));
                }
                it.is("all are taken away", 8, house::clear);
            }
            it.is("there is room again", 0, () -> maker.in(house));
        });
    }

    private void fill(Guesswright house, InHouse maker) {
        for (int game = 0; game < 8; game++) {
            it.is("game " + game, game, () -> maker.in(house));
        }
    }

    /** A game that is refused takes no number, in a house without games and in one that has seven. */
    private void refusesGame(String what, InHouse maker) {
        Guesswright empty = new Guesswright();
        it.refuses(what, Checks.ARGUMENT, empty, () -> maker.in(empty));
        it.is(what + ", so the next is the first", 0, () -> empty.numbers(1));
        Guesswright nearlyFull = Houses.ofGames(7);
        it.refuses(what + ", beside seven", Checks.ARGUMENT, nearlyFull, () -> maker.in(nearlyFull));
        it.is(what + ", so there is room for one", 7, () -> nearlyFull.numbers(1));
    }

    // ---- promise 2

    private void codes() {
        of(2, "- `places`: how many places, 1 to 4", this::placesOfCodes);
        of(2, "- `colours`: how many colours, 1 to 6", this::coloursOfCodes);
        of(2, "Throws `IllegalArgumentException` if a number is out of range, or there is no code", this::noCodes);
        noRoom(2, house -> house.codes(2, 2, true), house -> house.codes(0, 2, true), house -> house.codes(5, 2, true),
                house -> house.codes(2, 0, true), house -> house.codes(2, 7, true), house -> house.codes(3, 2, false));
    }

    private void placesOfCodes() {
        int[] due = {2, 4, 8, 16};
        for (int places = 1; places <= 4; places++) {
            Guesswright house = Houses.ofCodes(places, 2, true);
            int last = due[places - 1] - 1;
            int right = 10 * places;
            it.is("codes of " + places, last + 1, () -> house.things(0));
            it.is("the last of " + places, last, () -> house.told(0, last));
            it.is("all places right of " + places, right, () -> house.answer(0, last, last));
        }
    }

    private void coloursOfCodes() {
        int[] due = {1, 16, 81, 256, 625, 1296};
        int[] dueApart = {0, 0, 0, 24, 120, 360};
        int[] dueFirst = {0, 0, 0, 27, 38, 51};
        for (int colours = 1; colours <= 6; colours++) {
            Guesswright house = Houses.ofCodes(4, colours, true);
            int at = colours - 1;
            it.is("codes in " + colours, due[at], () -> house.things(0));
            it.is("the last in " + colours, due[at] - 1, () -> house.told(0, due[at] - 1));
            if (dueApart[at] > 0) {
                Guesswright apart = Houses.ofCodes(4, colours, false);
                it.is("codes without a colour twice in " + colours, dueApart[at], () -> apart.things(0));
                it.is("the first one, 0123, in " + colours, dueFirst[at], () -> apart.told(0, 0));
            }
        }
    }

    private void noCodes() {
        for (boolean hasRepeats : new boolean[] {true, false}) {
            for (int bad : new int[] {LOW, -1, 0, 5, 100, HIGH}) {
                refusesGame("places " + bad, house -> house.codes(bad, 6, hasRepeats));
                refusesGame("places " + bad + " in 1 colour", house -> house.codes(bad, 1, hasRepeats));
            }
            for (int bad : new int[] {LOW, -1, 0, 7, 100, HIGH}) {
                refusesGame("colours " + bad, house -> house.codes(1, bad, hasRepeats));
                refusesGame("colours " + bad + " in 4 places", house -> house.codes(4, bad, hasRepeats));
            }
        }
        for (int places = 1; places <= 4; places++) {
            for (int colours = 1; colours <= 6; colours++) {
                noCodesWithoutRepeats(places, colours);
            }
        }
    }

    private void noCodesWithoutRepeats(int places, int colours) {
        if (places > colours) {
            refusesGame(places + " places in " + colours, house -> house.codes(places, colours, false));
            return;
        }
        int due = 1;
        for (int place = 0; place < places; place++) {
            due *= colours - place;
        }
        Guesswright house = Houses.ofCodes(places, colours, false);
        it.is(places + " places in " + colours, due, () -> house.things(0));
    }

    // ---- promise 3

    private void numbers() {
        of(3, "- `many`: m, 1 to 64", () -> {
            for (int many = 1; many <= 64; many++) {
                Guesswright house = Houses.ofNumbers(many);
                int last = many - 1;
                it.is("things", many, () -> house.things(0));
                it.is("the highest", last, () -> house.told(0, last));
                it.is("questions", last + 8, () -> house.questions(0));
            }
        });
        of(3, "Throws `IllegalArgumentException` if it is out of range", () -> {
            for (int bad : new int[] {LOW, -64, -1, 0, 65, 2000, HIGH}) {
                refusesGame("numbers " + bad, house -> house.numbers(bad));
            }
        });
        noRoom(3, house -> house.numbers(64), house -> house.numbers(0), house -> house.numbers(65));
    }

    // ---- promise 4

    private void coins() {
        of(4, "- `coins`: how many coins, 2 to 7", () -> {
            int[] questions = {2, 6, 18, 50, 140, 392};
            for (int coins = 2; coins <= 7; coins++) {
                Guesswright house = Houses.ofCoins(coins, false);
                Guesswright alike = Houses.ofCoins(coins, true);
                int due = questions[coins - 2];
                int things = 2 * coins;
                it.is("things", things, () -> house.things(0));
                it.is("the last coin is lighter", things - 1, () -> house.told(0, things - 1));
                it.is("one thing more", things + 1, () -> alike.things(0));
                it.is("which is the first", -1, () -> alike.told(0, 0));
                it.is("questions", due, () -> house.questions(0));
                it.is("as many of both", due, () -> alike.questions(0));
            }
        });
        of(4, "Throws `IllegalArgumentException` if the number is out of range", () -> {
            for (int bad : new int[] {LOW, -2, -1, 0, 1, 8, 100, HIGH}) {
                refusesGame("coins " + bad, house -> house.coins(bad, false));
                refusesGame("coins, maybe alike, " + bad, house -> house.coins(bad, true));
            }
        });
        noRoom(4, house -> house.coins(7, true), house -> house.coins(1, true), house -> house.coins(8, false));
    }

    // ---- promise 5

    private void fleets() {
        of(5, "- `width`: the width of the grid, 1 to 5", () -> {
            int[] across = {0, 1, 2, 3, 4};
            for (int width = 1; width <= 5; width++) {
                Guesswright house = Houses.ofFleets(width, 1, 1, false);
                int due = width;
                it.is("one ship of one cell", due, () -> house.things(0));
                it.is("as many questions", due, () -> house.questions(0));
                if (width > 1) {
                    Guesswright two = Houses.ofFleets(width, 1, 2, false);
                    it.is("one ship of two cells", across[due - 1], () -> two.things(0));
                }
            }
        });
        of(5, "- `height`: the height, 1 to 5", () -> {
            for (int height = 1; height <= 5; height++) {
                Guesswright house = Houses.ofFleets(1, height, 1, false);
                int due = height;
                it.is("one ship of one cell", due, () -> house.things(0));
                Guesswright long5 = Houses.ofFleets(5, height, 5, false);
                it.is("ships of five cells", height == 5 ? 10 : due, () -> long5.things(0));
            }
        });
        of(5, "- `ships`: the sizes of ships as digits 1 to 5, the first one the highest, at most three", this::ships);
        of(5, "Throws `IllegalArgumentException` if a number is out of range, or there is no way to lay them, "
                + "or more than 2000", this::noFleets);
        noRoom(5, house -> house.fleets(2, 2, 22, true), house -> house.fleets(0, 2, 2, true),
                house -> house.fleets(2, 6, 2, true), house -> house.fleets(2, 2, 0, true),
                house -> house.fleets(2, 2, 22, false), house -> house.fleets(5, 5, 111, true));
    }

    private void ships() {
        int[] due = {25, 40, 30, 20, 10};
        for (int size = 1; size <= 5; size++) {
            Guesswright house = Houses.ofFleets(5, 5, size, true);
            int at = size;
            it.is("one ship of " + size, due[size - 1], () -> house.things(0));
            it.is("its size is the answer", at, () -> house.answer(0, 0, 0));
        }
        Guesswright house = new Guesswright();
        it.is("a small ship ahead of a long one", 0, () -> house.fleets(3, 1, 12, true));
        it.is("the small one goes first", 1, () -> house.answer(0, 0, 0));
        it.is("a long ship ahead of a small one", 1, () -> house.fleets(3, 1, 21, true));
        it.is("the long one goes first", 2, () -> house.answer(1, 0, 0));
        it.is("three ships", 2, () -> house.fleets(5, 1, 131, true));
        it.is("lie in six ways", 6, () -> house.things(2));
        it.is("the third one is there", 1, () -> house.answer(2, 0, 4));
        it.is("three that fill the grid", 3, () -> house.fleets(3, 1, 111, true));
        it.is("lie in one way", 1, () -> house.things(3));
        it.is("the greatest number", 4, () -> house.fleets(5, 5, 555, false));
        it.is("across and down", 2, () -> house.things(4));
        it.is("the least number", 5, () -> house.fleets(1, 1, 1, true));
    }

    private void noFleets() {
        for (int bad : OUT_OF_SIDES) {
            refusesGame("width " + bad, house -> house.fleets(bad, 5, 1, true));
            refusesGame("height " + bad, house -> house.fleets(5, bad, 1, true));
            refusesGame("both " + bad, house -> house.fleets(bad, bad, 1, true));
        }
        int[] ships = {LOW, -555, -11, -1, 0, 6, 9, 10, 16, 20, 50, 56, 60, 61, 100, 101, 110, 116, 161, 501, 510, 550,
            556, 565, 600, 611, 655, 999, 1000, 1001, 1111, 5555, 1_111_111_111, HIGH};
        for (int bad : ships) {
            refusesGame("ships " + bad, house -> house.fleets(5, 5, bad, true));
        }
        refusesGame("a ship longer than the grid", house -> house.fleets(4, 4, 5, true));
        refusesGame("a ship longer than the row", house -> house.fleets(1, 1, 2, true));
        refusesGame("two ships in one cell", house -> house.fleets(1, 1, 11, true));
        refusesGame("three ships in two cells", house -> house.fleets(2, 1, 111, true));
        refusesGame("two ships that touch", house -> house.fleets(2, 1, 11, false));
        refusesGame("two ships that touch by a corner", house -> house.fleets(2, 2, 11, false));
        refusesGame("the third one without room", house -> house.fleets(5, 1, 221, false));
        refusesGame("2035 ways", house -> house.fleets(3, 5, 122, true));
        refusesGame("2300 ways", house -> house.fleets(5, 5, 111, true));
        refusesGame("very many ways", house -> house.fleets(5, 5, 123, true));
        Guesswright house = new Guesswright();
        it.is("no way is nearer to 2000 ways", 0, () -> house.fleets(5, 5, 144, true));
        it.is("these are", 1972, () -> house.things(0));
        it.is("one cell between two ships", 1, () -> house.fleets(3, 1, 11, false));
        it.is("leaves one way", 1, () -> house.things(1));
    }

    // ---- promise 6

    private void mines() {
        of(6, "- `width`: the width of the grid, 1 to 5", () -> {
            for (int width = 1; width <= 5; width++) {
                Guesswright house = Houses.ofMines(width, 1, 1, true);
                int due = width;
                it.is("one mine", due, () -> house.things(0));
                it.is("at the last cell", 1 << due - 1, () -> house.told(0, due - 1));
            }
        });
        of(6, "- `height`: the height, 1 to 5", () -> {
            for (int height = 1; height <= 5; height++) {
                Guesswright house = Houses.ofMines(5, height, 1, true);
                int due = 5 * height;
                it.is("one mine", due, () -> house.things(0));
                it.is("at the last cell", 1 << due - 1, () -> house.told(0, due - 1));
            }
        });
        of(6, "- `mines`: how many mines, 0 to the number of cells", this::minesOfCells);
        of(6, "Throws `IllegalArgumentException` if a number is out of range, or there are more than 2000 things",
                this::noMines);
        noRoom(6, house -> house.mines(4, 4, 4, true), house -> house.mines(0, 1, 0, true),
                house -> house.mines(1, 6, 0, true), house -> house.mines(2, 2, -1, true),
                house -> house.mines(2, 2, 5, true), house -> house.mines(5, 5, 3, true));
    }

    private void minesOfCells() {
        for (int width = 1; width <= 5; width++) {
            for (int height = 1; height <= 5; height++) {
                int cells = width * height;
                Guesswright none = Houses.ofMines(width, height, 0, width > 2);
                Guesswright full = Houses.ofMines(width, height, cells, height > 2);
                it.is("no mines in " + cells, 1, () -> none.things(0));
                it.is("no cell of " + cells, 0, () -> none.told(0, 0));
                it.is("as many mines as cells, " + cells, 1, () -> full.things(0));
                it.is("each cell of " + cells, (1 << cells) - 1, () -> full.told(0, 0));
            }
        }
    }

    private void noMines() {
        for (int bad : OUT_OF_SIDES) {
            refusesGame("width " + bad, house -> house.mines(bad, 5, 0, true));
            refusesGame("height " + bad, house -> house.mines(5, bad, 0, false));
            refusesGame("both " + bad, house -> house.mines(bad, bad, 1, false));
        }
        for (int width = 1; width <= 5; width++) {
            for (int height = 1; height <= 5; height++) {
                int across = width;
                int down = height;
                refusesGame("too few", house -> house.mines(across, down, -1, true));
                refusesGame("too many", house -> house.mines(across, down, across * down + 1, true));
                for (int mines = 0; mines <= width * height; mines++) {
                    minesOf(width, height, mines);
                }
            }
        }
        refusesGame("the fewest", house -> house.mines(5, 5, LOW, true));
        refusesGame("the most", house -> house.mines(5, 5, HIGH, true));
    }

    private void minesOf(int width, int height, int mines) {
        int due = choose(width * height, mines);
        if (due > 2000) {
            refusesGame(due + " sets", house -> house.mines(width, height, mines, false));
            return;
        }
        Guesswright house = Houses.ofMines(width, height, mines, true);
        it.is(mines + " mines on " + width + " by " + height, due, () -> house.things(0));
        int highest = (1 << mines) - 1 << width * height - mines;
        it.is("the last set of these", highest, () -> house.told(0, due - 1));
    }

    // ---- promises 7 to 9

    private void graphs() {
        of(7, "- `vertices`: how many vertices, 1 to 20", () -> {
            for (int vertices = 1; vertices <= 20; vertices++) {
                Guesswright house = Houses.ofLoneVertices(vertices);
                int due = vertices;
                it.is("things", due, () -> house.things(0));
                it.is("questions", due, () -> house.questions(0));
                it.is("the last one is told", due - 1, () -> house.told(0, due - 1));
            }
        });
        of(7, "Takes all edges of the graph out, and tells its vertices.", this::verticesAnew);
        of(7, "Returns how many edges there were.", this::edgesThereWere);
        of(7, "Throws `IllegalArgumentException` if it is out of range", () -> {
            Guesswright house = Houses.ofPath(20);
            for (int bad : new int[] {LOW, -20, -1, 0, 21, 32, HIGH}) {
                it.refuses("vertices " + bad, Checks.ARGUMENT, house, () -> house.vertices(bad));
            }
            it.is("all edges are there yet", 19, () -> house.vertices(1));
        });
        of(8, "- `one`: a vertex", this::everyEdge);
        of(8, "- `other`: another one", this::edgeOutAgain);
        of(8, "Throws `IndexOutOfBoundsException` if there is no such vertex, for either", this::noVertices);
        of(8, "Throws `IllegalArgumentException` if both are the same", this::sameVertices);
        noRoom(9, Guesswright::graph);
    }

    private void verticesAnew() {
        Guesswright house = Houses.ofPath(20);
        it.is("one vertex", 19, () -> house.vertices(1));
        it.refuses("the second is gone", Checks.INDEX, house, () -> house.edge(1, 0));
        it.is("twenty again", 0, () -> house.vertices(20));
        it.is("a game of these", 1, house::graph);
        it.is("the edge did not come back", 99, () -> house.answer(1, 0, 1));
        it.is("nor did the last one", 99, () -> house.answer(1, 18, 19));
        it.is("the game made before has it", 19, () -> house.answer(0, 0, 19));
    }

    private void edgesThereWere() {
        Guesswright house = new Guesswright();
        it.is("none at first", 0, () -> house.vertices(20));
        int edges = 0;
        for (int one = 0; one < 20; one++) {
            for (int other = 0; other < one; other++) {
                house.edge(one, other);
                edges++;
            }
        }
        it.holds("all of 20 vertices are 190", edges == 190);
        it.is("all", 190, () -> house.vertices(20));
        it.is("none any more", 0, () -> house.vertices(20));
    }

    private void everyEdge() {
        for (int vertices : new int[] {2, 3, 20}) {
            Guesswright house = new Guesswright();
            house.vertices(vertices);
            int last = vertices - 1;
            it.is("from the first to the last of " + vertices, 1, () -> house.edge(0, last));
            it.is("out again from the last to the first", 0, () -> house.edge(last, 0));
            it.is("in again from the last to the first", 1, () -> house.edge(last, 0));
            house.graph();
            it.is("a way from the first", 1, () -> house.answer(0, last, 0));
            it.is("a way from the last", 1, () -> house.answer(0, 0, last));
        }
    }

    private void edgeOutAgain() {
        Guesswright house = Houses.ofPath(20);
        it.is("one of 19 is taken out", 18, () -> house.edge(10, 9));
        house.graph();
        it.is("no way any more", 99, () -> house.answer(1, 9, 10));
        it.is("beside that nothing changed", 9, () -> house.answer(1, 0, 9));
        it.is("put in again", 19, () -> house.edge(9, 10));
    }

    private void noVertices() {
        for (int vertices : new int[] {1, 2, 20}) {
            Guesswright house = new Guesswright();
            house.vertices(vertices);
            for (int bad : new int[] {LOW, -1, vertices, vertices + 1, 32, HIGH}) {
                it.refuses("one " + bad, Checks.INDEX, house, () -> house.edge(bad, 0));
                it.refuses("other " + bad, Checks.INDEX, house, () -> house.edge(0, bad));
                it.refuses("both the same " + bad, Checks.INDEX, house, () -> house.edge(bad, bad));
                it.refuses("both " + bad, Checks.INDEX, house, () -> house.edge(bad, -1));
            }
        }
    }

    private void sameVertices() {
        for (int vertices : new int[] {1, 2, 20}) {
            Guesswright house = new Guesswright();
            house.vertices(vertices);
            int last = vertices - 1;
            it.refuses("the first", Checks.ARGUMENT, house, () -> house.edge(0, 0));
            it.refuses("the last", Checks.ARGUMENT, house, () -> house.edge(last, last));
        }
    }

    // ---- promise 10

    private void clear() {
        of(10, "Takes all games away.", this::madeAnew);
        of(10, "Returns how many there were.", () -> {
            for (int games = 0; games <= 8; games++) {
                Guesswright house = Houses.ofGames(games);
                int due = games;
                it.is("of " + games, due, house::clear);
                it.is("then none", 0, house::clear);
            }
        });
    }

    /** Games of other kinds and sizes come where there were some with lies and answers. */
    private void madeAnew() {
        Guesswright house = new Guesswright();
        for (int game = 0; game < 8; game++) {
            int at = game;
            house.codes(4, 6, true);
            house.setLies(game, 3);
            for (int taken = 0; taken < 3; taken++) {
                house.take(at, 7, 40);
            }
        }
        house.clear();
        it.refuses("no game 0", Checks.INDEX, house, () -> house.left(0));
        it.refuses("no game 7", Checks.INDEX, house, () -> house.left(7));
        house.numbers(3);
        house.coins(2, true);
        house.fleets(2, 2, 1, true);
        house.mines(2, 2, 1, true);
        house.graph();
        house.codes(1, 2, true);
        int[] due = {3, 5, 4, 4, 1, 2};
        for (int game = 0; game < due.length; game++) {
            int at = game;
            it.is("all are left of game " + game, due[game], () -> house.left(at));
            it.is("no lies of its last thing", 0, () -> house.liesOf(at, due[at] - 1));
            it.refuses("nothing is to be taken back", Checks.MISSING, house, () -> house.back(at));
            it.is("it may have no lies", 0, () -> house.setLies(at, 0));
        }
        it.refuses("there are six", Checks.INDEX, house, () -> house.left(6));
        it.is("nothing is false", true, house::isTrue);
    }

    // ---- promise 11

    private void lies() {
        of(11, "- `lies`: how many, 0 to 3", () -> {
            Guesswright house = Houses.ofNumbers(2);
            int[] set = {3, 0, 1, 2, 3, 3, 0, 0};
            int before = 0;
            for (int lies : set) {
                it.is("set to " + lies, before, () -> house.setLies(0, lies));
                it.is("with none to come all weigh one", 2L, () -> house.weight(0, 0));
                it.is("with one to come they may lie", lies > 0 ? 4L : 2L, () -> house.weight(0, 1));
                before = lies;
            }
        });
        noSuchGame(11, (house, game) -> house.setLies(game, 0), (house, game) -> house.setLies(game, -1),
                (house, game) -> house.setLies(game, 4));
        of(11, "Throws `IllegalArgumentException` if it is out of range", () -> {
            Guesswright house = Houses.ofNumbers(2);
            refusesNumbers("lies", Checks.ARGUMENT, house, Guesswright::setLies, LOW, -1, 4, 31, HIGH);
            house.take(0, 1, 1);
            refusesNumbers("an answer was taken; lies", Checks.ARGUMENT, house, Guesswright::setLies, LOW, -1, 4, HIGH);
        });
        of(11, "Throws `UnsupportedOperationException` if an answer was taken, and is not taken back",
                this::liesTooLate);
    }

    private void liesTooLate() {
        Guesswright house = Houses.ofNumbers(4);
        house.take(0, 2, 1);
        refusesNumbers("after one answer, lies", Checks.UNSUPPORTED, house, Guesswright::setLies, 0, 1, 2, 3);
        house.adverse(0, 3);
        refusesNumbers("after two answers, lies", Checks.UNSUPPORTED, house, Guesswright::setLies, 0, 3);
        house.back(0);
        refusesNumbers("after one was taken back, lies", Checks.UNSUPPORTED, house, Guesswright::setLies, 0, 3);
        house.back(0);
        it.is("after both were taken back", 0, () -> house.setLies(0, 3));
        house.adverse(0, 1);
        refusesNumbers("after the adversary's answer, lies", Checks.UNSUPPORTED, house, Guesswright::setLies, 0, 3);
        house.back(0);
        takeAgain(house, 2, 1, 30);
        refusesNumbers("after 30 answers, lies", Checks.UNSUPPORTED, house, Guesswright::setLies, 0, 3);
        for (int back = 0; back < 30; back++) {
            house.back(0);
        }
        it.is("after 30 were taken back", 3, () -> house.setLies(0, 0));
        Guesswright two = Houses.ofGames(2);
        two.take(0, 102, 0);
        it.is("an answer of another game", 0, () -> two.setLies(1, 3));
    }
}
