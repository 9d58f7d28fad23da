/** Boundaries that promises 32 to 34 name: cells of grids, cells that are sure, mines that are cleared. */
final class GridBoundaries extends Boundaries {
    GridBoundaries(Sentences sentences, Checks checks) {
        super(sentences, checks);
    }

    @Override
    void all() {
        of(32, "Returns how many things that are left have a mine, or a ship, at a cell.", this::atEdges);
        noSuchGame(32, (house, game) -> house.at(game, 0), (house, game) -> house.at(game, -1),
                (house, game) -> house.at(game, 25));
        of(32, "Throws `UnsupportedOperationException` if it is not on a grid", () -> {
            for (Guesswright house : withoutGrid()) {
                refusesNumbers("cell", Checks.UNSUPPORTED, house, Guesswright::at, LOW, -1, 0, 1, 24, 25, HIGH);
            }
        });
        of(32, "Throws `IllegalArgumentException` if there is no such cell", this::noCells);
        of(33, "Returns the cells at which no thing that is left has something, or all have.", this::sureCells);
        noSuchGame(33, (house, game) -> house.sure(game, true), (house, game) -> house.sure(game, false));
        of(33, "Throws `UnsupportedOperationException` if it is not on a grid", () -> {
            for (Guesswright house : withoutGrid()) {
                it.refuses("all have", Checks.UNSUPPORTED, house, () -> house.sure(0, true));
                it.refuses("none has", Checks.UNSUPPORTED, house, () -> house.sure(0, false));
            }
        });
        isClear();
    }

    private static Guesswright[] withoutGrid() {
        return new Guesswright[] {Houses.ofCodes(1, 1, true), Houses.ofCodes(4, 6, true), Houses.ofNumbers(1),
            Houses.ofNumbers(64), Houses.ofCoins(2, false), Houses.ofCoins(7, true), Houses.ofLoneVertices(1),
            Houses.ofPath(20)};
    }

    // ---- promise 32

    private void atEdges() {
        Guesswright house = Houses.ofFleets(5, 5, 5, true);
        int[] corners = {0, 4, 20, 24};
        for (int corner : corners) {
            it.is("corner " + corner, 2, () -> house.at(0, corner));
        }
        house.take(0, 0, 0);
        it.is("not the first row any more", 1, () -> house.at(0, 4));
        it.is("the last row and the last column yet", 2, () -> house.at(0, 24));
        Guesswright full = Houses.ofMines(5, 5, 25, true);
        Guesswright none = Houses.ofMines(5, 5, 0, true);
        Guesswright most = Houses.ofMines(4, 4, 4, false);
        for (int cell = 0; cell < 25; cell++) {
            int at = cell;
            it.is("a mine everywhere, at " + cell, 1, () -> full.at(0, at));
            it.is("a mine nowhere, at " + cell, 0, () -> none.at(0, at));
        }
        it.is("of 1820 sets the first cell", 455, () -> most.at(0, 0));
        it.is("of 1820 sets the last cell", 455, () -> most.at(0, 15));
        Guesswright one = Houses.ofFleets(1, 1, 1, true);
        it.is("the only ship at the only cell", 1, () -> one.at(0, 0));
    }

    private void noCells() {
        for (int width = 1; width <= 5; width++) {
            for (int height = 1; height <= 5; height++) {
                Guesswright mines = Houses.ofMines(width, height, 1, true);
                Guesswright fleet = Houses.ofFleets(width, height, 1, true);
                int cells = width * height;
                refusesNumbers("cell of mines", Checks.ARGUMENT, mines, Guesswright::at, LOW, -1, cells, cells + 1, 32,
                        32 + cells, HIGH);
                refusesNumbers("cell of fleets", Checks.ARGUMENT, fleet, Guesswright::at, LOW, -1, cells, cells + 1, 32,
                        32 + cells, HIGH);
                it.is("the last cell", 1, () -> mines.at(0, cells - 1));
                it.is("the last cell of a ship", 1, () -> fleet.at(0, cells - 1));
            }
        }
    }

    // ---- promise 33

    private void sureCells() {
        int all = (1 << 25) - 1;
        Guesswright full = Houses.ofMines(5, 5, 25, false);
        it.is("mines everywhere, all have", all, () -> full.sure(0, true));
        it.is("mines everywhere, none has", 0, () -> full.sure(0, false));
        Guesswright none = Houses.ofMines(5, 5, 0, false);
        it.is("mines nowhere, all have", 0, () -> none.sure(0, true));
        it.is("mines nowhere, none has", all, () -> none.sure(0, false));
        Guesswright house = Houses.ofFleets(5, 5, 1, true);
        it.is("nothing is sure, all have", 0, () -> house.sure(0, true));
        it.is("nothing is sure, none has", 0, () -> house.sure(0, false));
        house.take(0, 24, 1);
        it.is("one is left, all have", 1 << 24, () -> house.sure(0, true));
        it.is("one is left, none has", all - (1 << 24), () -> house.sure(0, false));
        Guesswright small = Houses.ofMines(1, 1, 0, true);
        it.is("one cell without a mine", 1, () -> small.sure(0, false));
        it.is("nor with one", 0, () -> small.sure(0, true));
        Guesswright lies = Houses.ofMines(2, 1, 1, true);
        lies.setLies(0, 1);
        lies.take(0, 0, 9);
        it.is("perhaps by a lie, all have", 0, () -> lies.sure(0, true));
        lies.take(0, 0, 9);
        it.is("two answers are no lies, all have", 1, () -> lies.sure(0, true));
        it.is("two answers are no lies, none has", 2, () -> lies.sure(0, false));
    }

    // ---- promise 34

    private void isClear() {
        of(34, "- `game`: the game, which stays as it is", () -> {
            Guesswright house = Houses.ofMines(4, 4, 2, true);
            house.take(0, 0, 1);
            String before = Checks.stateOf(house);
            house.isClear(0, house.leftAt(0, 0), 0);
            house.isClear(0, house.leftAt(0, house.left(0) - 1), 0);
            it.is("as it was", before, () -> Checks.stateOf(house));
        });
        of(34, "- `thing`: where the mines are, a thing that is left", () -> {
            Guesswright house = Houses.ofMines(5, 1, 1, false);
            for (int thing = 1; thing < 5; thing++) {
                int mine = thing;
                it.is("a mine at " + thing, true, () -> house.isClear(0, mine, 0));
            }
            it.is("the last cell first", true, () -> house.isClear(0, 0, 4));
        });
        of(34, "all cells without a mine are opened, one by one, each being sure among the things that are left by the "
                + "answers taken and by what was opened before, the first one being told.", this::opened);
        of(34, "Throws `IndexOutOfBoundsException` if there is no such game or thing", () -> {
            refuseThings((house, game, thing) -> house.isClear(game, thing, 0));
            refuseThings((house, game, thing) -> house.isClear(game, thing, HIGH));
        });
        of(34, "Throws `UnsupportedOperationException` if it is no game of mines, may have lies, "
                + "or the thing is not left", this::cannotClear);
        of(34, "Throws `IllegalArgumentException` if there is no such cell, or a mine there", this::noFirstCell);
    }

    private void opened() {
        Guesswright none = Houses.ofMines(5, 5, 0, false);
        for (int cell : new int[] {0, 12, 24}) {
            it.is("without mines, from " + cell, true, () -> none.isClear(0, 0, cell));
        }
        Guesswright allButOne = Houses.ofMines(5, 5, 24, true);
        it.is("the only cell without a mine is the last one", true, () -> allButOne.isClear(0, 0, 24));
        it.is("the only cell without a mine is the first one", true, () -> allButOne.isClear(0, 24, 0));
        Guesswright single = Houses.ofMines(1, 1, 0, true);
        it.is("one cell", true, () -> single.isClear(0, 0, 0));
        Guesswright two = Houses.ofMines(5, 5, 23, false);
        it.is("the other one of two is one of three", false, () -> two.isClear(0, 0, 24));
        Guesswright corner = Houses.ofMines(2, 2, 1, true);
        it.is("three that see the same", false, () -> corner.isClear(0, 3, 0));
        corner.take(0, 1, 1);
        it.is("of two left it is not sure", false, () -> corner.isClear(0, 3, 0));
        corner.take(0, 2, 1);
        it.is("what was told before makes it sure", true, () -> corner.isClear(0, 3, 0));
        Guesswright row = Houses.ofMines(5, 1, 2, false);
        int between = 3;
        it.is("mines at 0 and 3", 0b01001, () -> row.told(0, between));
        it.is("from 1 it is not sure", false, () -> row.isClear(0, between, 1));
        it.is("from 4 it is not sure", false, () -> row.isClear(0, between, 4));
        it.is("mines at 3 and 4, step by step from 0", 0b11000, () -> row.told(0, 9));
        it.is("each tells the next", true, () -> row.isClear(0, 9, 0));
    }

    private void cannotClear() {
        Guesswright[] others = {Houses.ofFleets(2, 2, 1, true), Houses.ofCodes(2, 2, true), Houses.ofNumbers(4),
            Houses.ofCoins(2, true), Houses.ofLoneVertices(4)};
        for (Guesswright house : others) {
            refusesNumbers("of another kind, cell", Checks.UNSUPPORTED, house,
                    (in, game, cell) -> in.isClear(game, 0, cell), LOW, -1, 0, 1, 25, HIGH);
        }
        Guesswright house = Houses.ofMines(2, 2, 1, true);
        for (int lies = 1; lies <= 3; lies++) {
            house.setLies(0, lies);
            refusesNumbers(lies + " lies, cell", Checks.UNSUPPORTED, house,
                    (in, game, cell) -> in.isClear(game, 3, cell), LOW, -1, 0, 3, 4, HIGH);
        }
        house.setLies(0, 0);
        it.is("no lies again", false, () -> house.isClear(0, 3, 0));
        house.take(0, 0, 1);
        refusesNumbers("the first is not left, cell", Checks.UNSUPPORTED, house,
                (in, game, cell) -> in.isClear(game, 0, cell), LOW, -1, 0, 1, 4, HIGH);
        house.back(0);
        it.is("the first is left again", false, () -> house.isClear(0, 0, 1));
    }

    private void noFirstCell() {
        for (int width = 1; width <= 5; width++) {
            for (int height = 1; height <= 5; height++) {
                Guesswright house = Houses.ofMines(width, height, 0, true);
                int cells = width * height;
                refusesNumbers("of " + cells + ", cell", Checks.ARGUMENT, house,
                        (in, game, cell) -> in.isClear(game, 0, cell), LOW, -1, cells, cells + 1, 32, 32 + cells, HIGH);
                it.is("of " + cells + ", the last cell", true, () -> house.isClear(0, 0, cells - 1));
            }
        }
        Guesswright house = Houses.ofMines(5, 5, 1, false);
        for (int mine : new int[] {0, 12, 24}) {
            it.refuses("a mine at " + mine, Checks.ARGUMENT, house, () -> house.isClear(0, mine, mine));
        }
        Guesswright full = Houses.ofMines(5, 5, 25, false);
        for (int cell = 0; cell < 25; cell++) {
            int at = cell;
            it.refuses("mines everywhere, at " + cell, Checks.ARGUMENT, full, () -> full.isClear(0, 0, at));
        }
    }
}
