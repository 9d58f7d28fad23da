/** Boundaries that the document's terms name. */
final class TermBoundaries extends Boundaries {
    TermBoundaries(Sentences sentences, Checks checks) {
        super(sentences, checks);
    }

    @Override
    void all() {
        games();
        codes();
        numbers();
        coins();
        fleets();
        mines();
        graphs();
        whatIsLeft();
        questions();
        trees();
        lies();
        exceptions();
    }

    private void term(String words, Runnable test) {
        of(Sentences.TERMS, words, test);
    }

    // ---- games

    private void games() {
        term("Each answer that is taken is true of a thing that is left, but for lies", () -> {
            Guesswright house = Houses.ofMines(4, 4, 4, true);
            for (int cell = 0; cell < 16; cell++) {
                int due = house.adverse(0, cell);
                for (int index = 0; index < house.left(0); index++) {
                    it.holds("it is true of all that are left", house.answer(0, house.leftAt(0, index), cell) == due);
                }
            }
            it.is("at the end one is left", 1, () -> house.left(0));
        });
        term("no tree is lower than the one that is told as the least.", () -> {
            for (int vertices = 2; vertices <= 14; vertices++) {
                Guesswright house = Houses.ofLoneVertices(vertices);
                int due = vertices - 1;
                it.is("one by one, " + vertices, due, () -> house.depth(0));
                it.is("as the best questions do", due, () -> house.find(0, due, 'w'));
            }
        });
        term("At most 8 games are numbered from 0, each of hidden things, numbered from 0, at most 2000", () -> {
            Guesswright house = new Guesswright();
            for (int game = 0; game < 8; game++) {
                int at = game;
                it.is("game " + game, game, () -> house.mines(4, 4, 4, at % 2 == 0));
            }
            it.refuses("game 8", Checks.STATE, house, () -> house.mines(4, 4, 4, true));
            for (int game = 0; game < 8; game++) {
                int at = game;
                it.is("the first thing of game " + game, 0b1111, () -> house.told(at, 0));
                it.is("the last thing of game " + game, 0b1111 << 12, () -> house.told(at, 1819));
                it.is("across both edges on a ring alone", at % 2 == 0 ? 3 : 0, () -> house.answer(at, 0, 15));
                it.is("all are left", 1820, () -> house.left(at));
            }
            it.refuses("more than 2000", Checks.ARGUMENT, house, () -> house.mines(5, 5, 3, true));
        });
        term("A thing gives each question an answer, a number.", () -> {
            for (Maker kind : kinds()) {
                Guesswright house = kind.make();
                int last = house.things(0) - 1;
                int question = house.best(0, 'p');
                it.holds("the first thing", house.answer(0, 0, question) >= 0);
                it.holds("the last thing", house.answer(0, last, question) >= 0);
            }
        });
    }

    // ---- codes

    private void codes() {
        term("a code has 1 to 4 places, each of a colour from 0 on, of 1 to 6", () -> {
            Guesswright house = Houses.ofCodes(4, 6, true);
            it.is("0000", 0, () -> house.told(0, 0));
            it.is("5555", 1295, () -> house.told(0, 1295));
            house.codes(1, 1, true);
            it.is("one place of one colour", 0, () -> house.told(1, 0));
            it.is("alone", 1, () -> house.things(1));
            house.codes(1, 1, false);
            it.is("alone, without a colour twice", 1, () -> house.things(2));
            house.codes(4, 1, true);
            it.is("four places of one colour", 1, () -> house.things(3));
            it.is("all right", 40, () -> house.answer(3, 0, 0));
        });
        term("the first place the highest one.", () -> {
            Guesswright house = Houses.ofCodes(2, 6, true);
            it.is("10 and 11 have the first place right", 10, () -> house.answer(0, 6, 7));
            it.is("10 and 01 have none right", 2, () -> house.answer(0, 6, 1));
            it.is("10 and 20 have the second place right", 10, () -> house.answer(0, 6, 12));
        });
        term("or those without a colour twice; so are questions, which are told as the numbers of these codes.", () -> {
            Guesswright house = Houses.ofCodes(4, 4, false);
            it.is("the first is 0123", 27, () -> house.told(0, 0));
            it.is("the last is 3210", 228, () -> house.told(0, 23));
            it.is("asked by its own number", 40, () -> house.answer(0, 0, 27));
            it.is("asked by the last one", 4, () -> house.answer(0, 0, 228));
            it.refuses("not by its place among the things", Checks.ARGUMENT, house, () -> house.answer(0, 0, 0));
        });
        term("The answer is 10 times the places that are right, plus how many more would be", () -> {
            Guesswright house = Houses.ofCodes(4, 6, true);
            int[][] due = {{0, 0, 40}, {0, 1295, 0}, {0, 1, 30}, {1, 6, 22}, {7, 252, 4}, {7, 217, 22}, {7, 1, 30},
                {51, 8, 12}, {51, 1245, 10}};
            for (int[] one : due) {
                it.is(one[0] + " asked " + one[1], one[2], () -> house.answer(0, one[0], one[1]));
            }
        });
    }

    // ---- numbers

    private void numbers() {
        term("things are the numbers 0 to m - 1.", () -> {
            for (int many : new int[] {1, 2, 63, 64}) {
                Guesswright house = Houses.ofNumbers(many);
                it.is("the first", 0, () -> house.told(0, 0));
                it.is("the last", many - 1, () -> house.told(0, many - 1));
                it.refuses("one more", Checks.INDEX, house, () -> house.told(0, many));
            }
        });
        term("The question x from 1 to m - 1 is answered by 1, if the number is at least x, else 0", () -> {
            Guesswright house = Houses.ofNumbers(64);
            for (int x = 1; x < 64; x++) {
                int asked = x;
                it.is("just below " + x, 0, () -> house.answer(0, asked - 1, asked));
                it.is("just " + x, 1, () -> house.answer(0, asked, asked));
            }
            refusesNumbers("question", Checks.ARGUMENT, house, (in, game, asked) -> in.answer(game, 0, asked), 0, 64);
        });
        term("the question 100 + d, d from 2 to 9, whatever m, by the remainder of the number by d.", () -> {
            for (int many : new int[] {1, 2, 64}) {
                Guesswright house = Houses.ofNumbers(many);
                for (int d = 2; d <= 9; d++) {
                    int by = d;
                    it.is("the remainder of 0 by " + d, 0, () -> house.answer(0, 0, 100 + by));
                    it.is("the remainder of the last by " + d, (many - 1) % d,
                            () -> house.answer(0, many - 1, 100 + by));
                }
                refusesNumbers("question", Checks.ARGUMENT, house, (in, game, asked) -> in.answer(game, 0, asked), 100,
                        101, 110, 111);
            }
        });
    }

    // ---- coins

    private void coins() {
        term("if it may be, the thing 0 is that all are alike, ahead of these.", () -> {
            Guesswright house = Houses.ofCoins(2, true);
            it.is("all alike balance", 0, () -> house.answer(0, 0, 5));
            it.is("the coin 0 is heavier, on the right", 2, () -> house.answer(0, 1, 5));
            it.is("the coin 0 is lighter, on the right", 1, () -> house.answer(0, 2, 5));
            Guesswright unlike = Houses.ofCoins(2, false);
            it.is("the thing 0 is then that the coin 0 is heavier", 2, () -> unlike.answer(0, 0, 5));
        });
        term("as many are left as right, at least one.", () -> {
            for (int coins = 2; coins <= 7; coins++) {
                Guesswright house = Houses.ofCoins(coins, true);
                refusesNumbers("of " + coins + " coins", Checks.ARGUMENT, house,
                        (in, game, asked) -> in.answer(game, 0, asked), 0, 1, 2, 4, 8);
                it.is("one against one of " + coins, 0, () -> house.answer(0, 0, 7));
            }
            Guesswright house = Houses.ofCoins(6, false);
            int all = 1 + 3 + 9 + 2 * (27 + 81 + 243);
            it.is("three against three, the coin 0 heavier", 1, () -> house.answer(0, 0, all));
            it.is("three against three, the coin 5 lighter", 1, () -> house.answer(0, 11, all));
            it.refuses("two against three", Checks.ARGUMENT, house, () -> house.answer(0, 0, all - 1));
        });
        term("The answer is 0 if it balances, 1 if the left side is heavier, 2 if the right one is.", () -> {
            Guesswright house = Houses.ofCoins(3, false);
            int[] due = {1, 2, 2, 1, 0, 0};
            for (int thing = 0; thing < 6; thing++) {
                int at = thing;
                it.is("thing " + thing, due[thing], () -> house.answer(0, at, 7));
            }
        });
    }

    // ---- fleets

    private void fleets() {
        term("ships of a fleet that may not touch have no cells beside one another, not even by a corner.", () -> {
            Guesswright house = Houses.ofFleets(3, 3, 11, false);
            it.is("pairs of cells that are apart", 16, () -> house.things(0));
            it.is("the nearest to the first cell", 0b101, () -> house.told(0, 0));
            house.fleets(3, 3, 11, true);
            it.is("pairs of cells", 36, () -> house.things(1));
            it.is("side by side", 0b11, () -> house.told(1, 0));
            house.fleets(5, 1, 11, false);
            it.is("the edges of a row are no ring", 0b10001, () -> house.told(2, 2));
            house.fleets(5, 2, 55, true);
            it.is("two that touch", 1, () -> house.things(3));
            it.refuses("two that may not", Checks.ARGUMENT, house, () -> house.fleets(5, 2, 55, false));
            house.fleets(5, 3, 55, false);
            it.is("a row between them", 31 + (31 << 10), () -> house.told(4, 0));
        });
        term("Places of a ship go by its lowest cell, and of one cell across is ahead of down; "
                + "a ship of 1 cell is across alone.", () -> {
            Guesswright house = Houses.ofFleets(2, 3, 2, true);
            int[] due = {0b11, 0b101, 0b1010, 0b1100, 0b10100, 0b101000, 0b110000};
            it.is("seven places", 7, () -> house.things(0));
            for (int thing = 0; thing < 7; thing++) {
                int at = thing;
                it.is("place " + thing, due[thing], () -> house.told(0, at));
            }
            house.fleets(5, 5, 1, true);
            it.is("one place a cell", 25, () -> house.things(1));
            house.fleets(1, 1, 1, true);
            it.is("one place in all", 1, () -> house.things(2));
        });
        term("a ship of the size of the one just ahead of it has a place behind that one's; "
                + "others of one size lie either way.", () -> {
            Guesswright house = Houses.ofFleets(4, 1, 11, true);
            it.is("two of one size", 6, () -> house.things(0));
            house.fleets(4, 1, 111, true);
            it.is("three of one size", 4, () -> house.things(1));
            house.fleets(4, 1, 112, true);
            it.is("two of one size, ahead of a longer one", 3, () -> house.things(2));
            house.fleets(4, 1, 211, true);
            it.is("two of one size, behind a longer one", 3, () -> house.things(3));
            house.fleets(4, 1, 121, true);
            it.is("two of one size, a longer one between them in the list", 6, () -> house.things(4));
            house.fleets(2, 2, 22, true);
            it.is("across, then down", 2, () -> house.things(5));
        });
        term("A question is a cell; the answer is 0, or the size of the ship there.", () -> {
            Guesswright house = Houses.ofFleets(5, 3, 135, true);
            int thing = house.leftAt(0, 0);
            it.is("the ship of one", 1, () -> house.answer(0, thing, 0));
            it.is("the ship of three", 3, () -> house.answer(0, thing, 1));
            it.is("its end", 3, () -> house.answer(0, thing, 3));
            it.is("behind it", 0, () -> house.answer(0, thing, 4));
            it.is("the ship of five", 5, () -> house.answer(0, thing, 5));
            it.is("its end", 5, () -> house.answer(0, thing, 9));
            it.is("the last cell", 0, () -> house.answer(0, thing, 14));
        });
    }

    // ---- mines

    private void mines() {
        term("a set being the sum of 2 to the power of each.", () -> {
            Guesswright house = Houses.ofMines(5, 5, 2, false);
            it.is("the lowest", 3, () -> house.told(0, 0));
            it.is("the second", 5, () -> house.told(0, 1));
            it.is("the highest", (1 << 24) + (1 << 23), () -> house.told(0, 299));
        });
        term("the answer is 9 for a mine, else how many of the cells beside it, by a corner too, are mines, each once, "
                + "the cell itself never", () -> {
            Guesswright house = Houses.ofMines(3, 3, 8, false);
            it.is("eight beside the middle", 8, () -> house.answer(0, 4, 4));
            it.is("three beside a corner", 3, () -> house.answer(0, 8, 0));
            it.is("five beside an edge", 5, () -> house.answer(0, 7, 1));
            for (int cell = 0; cell < 9; cell++) {
                int asked = cell;
                it.is("a mine at " + cell, cell == 8 ? 3 : 9, () -> house.answer(0, 0, asked));
            }
            Guesswright ring = Houses.ofMines(3, 3, 8, true);
            for (int cell = 0; cell < 9; cell++) {
                int free = cell;
                it.is("eight beside each cell of a ring", 8, () -> ring.answer(0, 8 - free, free));
            }
        });
        term("on a ring the cells at an edge are beside those at the other one, in both directions.", this::rings);
    }

    /** On a ring of one mine, the cells that tell 1 are those beside it; each ring here names those of the cell 0. */
    private void rings() {
        int[][] sizes = {{1, 1}, {2, 1}, {1, 2}, {2, 2}, {3, 1}, {1, 3}, {4, 1}, {1, 4}, {5, 1}, {1, 5}, {2, 3}, {3, 2},
            {2, 4}, {4, 2}, {2, 5}, {5, 2}, {3, 3}, {4, 4}, {5, 5}};
        int[][] beside = {{}, {1}, {1}, {1, 2, 3}, {1, 2}, {1, 2}, {1, 3}, {1, 3}, {1, 4}, {1, 4}, {1, 2, 3, 4, 5},
            {1, 2, 3, 4, 5}, {1, 2, 3, 6, 7}, {1, 3, 4, 5, 7}, {1, 2, 3, 8, 9}, {1, 4, 5, 6, 9},
            {1, 2, 3, 4, 5, 6, 7, 8}, {1, 3, 4, 5, 7, 12, 13, 15}, {1, 4, 5, 6, 9, 20, 21, 24}};
        for (int i = 0; i < sizes.length; i++) {
            Guesswright house = Houses.ofMines(sizes[i][0], sizes[i][1], 1, true);
            int cells = sizes[i][0] * sizes[i][1];
            String ring = sizes[i][0] + " by " + sizes[i][1];
            it.is("the mine itself, " + ring, 9, () -> house.answer(0, 0, 0));
            for (int cell = 1; cell < cells; cell++) {
                int at = cell;
                int due = 0;
                for (int one : beside[i]) {
                    due += one == cell ? 1 : 0;
                }
                it.is("cell " + cell + " of " + ring, due, () -> house.answer(0, 0, at));
                it.is("the other way, cell " + cell + " of " + ring, due, () -> house.answer(0, at, 0));
            }
        }
        Guesswright open = Houses.ofMines(5, 5, 1, false);
        for (int cell : new int[] {4, 9, 20, 21, 24}) {
            it.is("without a ring, cell " + cell, 0, () -> open.answer(0, 0, cell));
        }
        Guesswright most = Houses.ofMines(2, 2, 3, true);
        it.is("three on a ring of two by two, each once", 3, () -> most.answer(0, 3, 0));
        Guesswright row = Houses.ofMines(1, 5, 4, true);
        it.is("two on a ring one wide, each once", 2, () -> row.answer(0, 4, 0));
    }

    // ---- graphs

    private void graphs() {
        term("things are the vertices of a graph, as it is when the game is made", () -> {
            Guesswright house = Houses.ofPath(3);
            house.edge(0, 2);
            it.is("an edge that came later", 2, () -> house.answer(0, 0, 2));
            house.vertices(1);
            it.is("the vertices stay", 3, () -> house.things(0));
            it.is("the edges stay", 1, () -> house.answer(0, 0, 1));
            house.graph();
            it.is("a game of one vertex", 1, () -> house.things(1));
            it.is("which is itself", 0, () -> house.answer(1, 0, 0));
            it.refuses("and alone", Checks.INDEX, house, () -> house.answer(1, 1, 0));
        });
        term("a question is a vertex, the answer how many edges the shortest way has, 99 without one.", () -> {
            Guesswright path = Houses.ofPath(20);
            it.is("the longest way", 19, () -> path.answer(0, 19, 0));
            it.is("to itself", 0, () -> path.answer(0, 19, 19));
            path.edge(0, 19);
            path.graph();
            it.is("a ring's shorter way", 1, () -> path.answer(1, 19, 0));
            it.is("a ring's longest way", 10, () -> path.answer(1, 10, 0));
            path.edge(9, 10);
            path.graph();
            it.is("a ring that is cut", 19, () -> path.answer(2, 10, 9));
            path.edge(0, 19);
            path.graph();
            it.is("without a way", 99, () -> path.answer(3, 10, 9));
            it.is("nor back", 99, () -> path.answer(3, 9, 10));
            it.is("a way yet", 9, () -> path.answer(3, 9, 0));
            Guesswright lone = Houses.ofLoneVertices(20);
            for (int vertex = 0; vertex < 20; vertex++) {
                int at = vertex;
                it.is("a vertex without a way", vertex == 0 ? 0 : 99, () -> lone.answer(0, at, 0));
            }
        });
    }

    // ---- what is left

    private void whatIsLeft() {
        term("A game may have lies, 0 at first.", () -> {
            for (Maker kind : kinds()) {
                Guesswright house = kind.make();
                house.graph();
                it.is("set by hand", 1, () -> house.setLies(0, 3));
                it.is("at first", 0, () -> house.setLies(1, 0));
            }
        });
        term("Each thing has as many lies as answers were taken that it would not have given.", () -> {
            Guesswright house = Houses.ofNumbers(4);
            house.setLies(0, 3);
            int[] answers = {1, 1, 1, 0, 5};
            int[][] due = {{1, 1, 0, 0}, {2, 2, 0, 0}, {3, 3, 0, 0}, {3, 3, 1, 1}, {4, 4, 2, 2}};
            for (int taken = 0; taken < answers.length; taken++) {
                house.take(0, 2, answers[taken]);
                for (int thing = 0; thing < 4; thing++) {
                    int at = thing;
                    it.is("after " + (taken + 1) + ", thing " + thing, due[taken][thing], () -> house.liesOf(0, at));
                }
            }
        });
        term("A thing is left if it has at most as many lies as the game may have.", () -> {
            for (int lies = 0; lies <= 3; lies++) {
                Guesswright house = Houses.ofNumbers(2);
                house.setLies(0, lies);
                for (int taken = 0; taken < lies; taken++) {
                    it.is("after so many lies as it may have", 2, () -> house.take(0, 1, 1));
                }
                it.is("after one more", 1, () -> house.take(0, 1, 1));
                it.is("taken back", 2, () -> house.back(0));
            }
        });
        term("An answer that is taken must leave a thing, perhaps one by lies; taken twice, it counts twice.", () -> {
            Guesswright house = Houses.ofNumbers(1);
            it.refuses("without lies", Checks.UNSUPPORTED, house, () -> house.take(0, 102, 1));
            house.setLies(0, 2);
            it.is("the first lie", 1, () -> house.take(0, 102, 1));
            it.is("the same again", 1, () -> house.take(0, 102, 1));
            it.is("counts twice", 2, () -> house.liesOf(0, 0));
            it.refuses("a third time", Checks.UNSUPPORTED, house, () -> house.take(0, 102, 1));
            it.is("a true one", 1, () -> house.take(0, 102, 0));
            Guesswright two = Houses.ofNumbers(2);
            it.is("true twice", 1, () -> two.take(0, 1, 1));
            it.is("leaves what it left", 1, () -> two.take(0, 1, 1));
            two.back(0);
            it.is("one of two is taken back", 1, () -> two.left(0));
        });
    }

    // ---- questions

    private void questions() {
        term("The parts of a question are the answers that things that are left would give.", () -> {
            Guesswright house = Houses.ofNumbers(9);
            it.is("nine", 9L, () -> house.weigh(0, 109, 'p'));
            house.take(0, 1, 1);
            it.is("eight, as 0 is not left", 8L, () -> house.weigh(0, 109, 'p'));
            house.take(0, 8, 1);
            it.is("one, as one thing is left", 1L, () -> house.weigh(0, 109, 'p'));
        });
        term("It is weighed by those that are left, as if each gave its own answer truly", () -> {
            Guesswright house = Houses.ofNumbers(2);
            house.setLies(0, 1);
            house.take(0, 1, 1);
            it.is("the thing with a lie gives its own answer", 1, () -> house.part(0, 1, 0));
            it.is("two parts", 2L, () -> house.weigh(0, 1, 'p'));
            house.take(0, 1, 1);
            it.is("it is not left", 0, () -> house.part(0, 1, 0));
        });
        term("of several one that is itself a thing that is left, of codes alone; of several the lowest number.",
                () -> {
            Guesswright codes = Houses.ofCodes(1, 6, true);
            for (int code = 0; code < 5; code++) {
                int due = code;
                it.is("the lowest code that is left", due, () -> codes.best(0, 'w'));
                codes.take(0, code, 0);
            }
            it.is("the last one", 5, () -> codes.best(0, 'w'));
            Guesswright graph = Houses.ofPath(3);
            graph.take(0, 0, 2);
            it.is("of vertices the lowest, though it is not left", 0, () -> graph.best(0, 'w'));
        });
    }

    // ---- trees

    private void trees() {
        term("one thing, or none, needs no questions; more need one question", () -> {
            for (Maker kind : kinds()) {
                Guesswright house = kind.make();
                house.setLies(0, 0);
                while (house.weigh(0, house.best(0, 'w'), 'p') > 1) {
                    house.adverse(0, house.best(0, 'w'));
                }
                if (house.left(0) == 1) {
                    it.is("no questions", 0, () -> house.depth(0));
                    it.is("nor any sum", 0, () -> house.leastSum(0));
                }
            }
            it.is("two", 1, () -> Houses.ofNumbers(2).depth(0));
        });
        term("The sum is likewise the least sum, over all things that are left, of the questions that are asked "
                + "until it alone is left.", () -> {
            for (int vertices = 1; vertices <= 10; vertices++) {
                int due = vertices * (vertices + 1) / 2 - 1;
                Guesswright house = Houses.ofLoneVertices(vertices);
                it.is("one by one, " + vertices, due, () -> house.leastSum(0));
            }
        });
        term("Questions at once: the fewest questions whose answers, together, tell all things that are left apart.",
                () -> {
            for (int vertices = 1; vertices <= 4; vertices++) {
                int due = vertices - 1;
                Guesswright house = Houses.ofLoneVertices(vertices);
                it.is("all but one of " + vertices, due, () -> house.atOnce(0));
            }
        });
        term("A proof of a thing: the fewest questions whose true answers leave it alone, of those that are left.",
                () -> {
            Guesswright house = Houses.ofNumbers(9);
            it.is("in the middle of nine", 1, () -> house.proof(0, 4));
            Guesswright more = Houses.ofNumbers(60);
            it.is("in the middle of 60", 2, () -> more.proof(0, 31));
            more.take(0, 31, 1);
            it.is("at the edge of those that are left", 1, () -> more.proof(0, 31));
            more.take(0, 32, 0);
            it.is("alone", 0, () -> more.proof(0, 31));
        });
    }

    // ---- lies

    private void lies() {
        term("of the sum of the ways to choose i of n, for i from 0 to the lies that the thing may still have.", () -> {
            Guesswright house = Houses.ofNumbers(2);
            house.setLies(0, 3);
            long[] left = {821 + 10701, 41 + 10701, 1 + 10701, 10701};
            it.is("before any lie", 2L * 10701, () -> house.weight(0, 40));
            for (int taken = 0; taken < 4; taken++) {
                house.take(0, 1, 1);
                long due = left[taken];
                it.is("after lie " + (taken + 1) + " of the first", due, () -> house.weight(0, 40));
            }
            it.is("with none to come", 1L, () -> house.weight(0, 0));
        });
    }

    // ---- exceptions

    private void exceptions() {
        term("A method that throws an exception changes nothing.", () -> {
            Guesswright house = Houses.ofPath(20);
            house.codes(2, 3, true);
            house.setLies(1, 1);
            house.take(1, 1, 20);
            it.refuses("codes", Checks.ARGUMENT, house, () -> house.codes(0, 0, true));
            it.refuses("fleets with a ship too many", Checks.ARGUMENT, house, () -> house.fleets(5, 5, 111, true));
            it.refuses("mines", Checks.ARGUMENT, house, () -> house.mines(5, 5, 12, true));
            it.refuses("vertices", Checks.ARGUMENT, house, () -> house.vertices(0));
            it.refuses("edge", Checks.INDEX, house, () -> house.edge(0, 20));
            it.refuses("lies", Checks.UNSUPPORTED, house, () -> house.setLies(1, 0));
            it.refuses("take", Checks.UNSUPPORTED, house, () -> house.take(0, 0, 50));
            it.refuses("adverse", Checks.ARGUMENT, house, () -> house.adverse(1, 9));
            it.refuses("back", Checks.MISSING, house, () -> house.back(0));
            it.refuses("find", Checks.UNSUPPORTED, house, () -> house.find(1, 0, 'w'));
        });
        term("If several exceptions apply, the exception that is listed first is thrown.", () -> {
            Guesswright house = Houses.full();
            it.refuses("out of range, and eight games", Checks.ARGUMENT, house, () -> house.numbers(0));
            takeAgain(house, 102, 0, 30);
            it.refuses("lies out of range, and an answer taken", Checks.ARGUMENT, house, () -> house.setLies(0, 4));
            it.refuses("no question, and 30 answers", Checks.ARGUMENT, house, () -> house.take(0, 0, 0));
            it.refuses("nothing left, and 30 answers", Checks.UNSUPPORTED, house, () -> house.take(0, 102, 1));
            it.refuses("no question, and 30 answers taken", Checks.ARGUMENT, house, () -> house.adverse(0, 0));
            it.refuses("no game, and no letter", Checks.INDEX, house, () -> house.weigh(8, 0, 'x'));
            it.refuses("no grid, and no cell", Checks.UNSUPPORTED, house, () -> house.at(0, -1));
            it.refuses("no mines, and no cell", Checks.UNSUPPORTED, house, () -> house.isClear(0, 0, -1));
            it.refuses("no thing, and no mines", Checks.INDEX, house, () -> house.isClear(0, 1, -1));
            it.refuses("both vertices the same, and neither there", Checks.INDEX, house, () -> house.edge(1, 1));
        });
    }
}
