/** Boundaries that promises 35 to 39 name: bits, unlike sets, shares, means, and whether all is true. */
final class FigureBoundaries extends Boundaries {
    FigureBoundaries(Sentences sentences, Checks checks) {
        super(sentences, checks);
    }

    @Override
    void all() {
        of(35, "is at most how many things there are.", this::bits);
        noSuchGame(35, Guesswright::bits);
        of(36, "Returns how many unlike sets of things are left by the games, as they are: two games of as many "
                + "things, with the same numbers left, have the same.", this::unlike);
        of(37, "Returns their number divided by that of all, both converted to float.", this::leftShare);
        noSuchGame(37, Guesswright::leftShare);
        of(38, "Returns its squares divided by how many things are left, both converted to double.", this::meanLeft);
        noSuchGame(38, (house, game) -> house.meanLeft(game, 102), (house, game) -> house.meanLeft(game, 0));
        noSuchQuestion(38, Guesswright::meanLeft);
        of(39, "Checks whether in each game a thing is left", this::thingsAreLeft);
        of(39, "lies are those by answers given anew", this::liesGivenAnew);
        of(39, "parts of the first question are all that is left", this::firstQuestion);
        of(39, "of games without lies of at most 8 things that are left, the depth is not above what the best question "
                + "at worst needs, and not below the least number of questions by how many answers there can be.",
                this::eightLeft);
    }

    // ---- promise 35

    /** Of 64 numbers, those from a bound on are left: half of a power of two, and one more than that. */
    private void bits() {
        int[] left = {64, 33, 32, 17, 16, 9, 8, 5, 4, 3, 2, 1};
        int[] due = {0, 0, 1, 1, 2, 2, 3, 3, 4, 4, 5, 6};
        for (int i = 0; i < left.length; i++) {
            Guesswright house = Houses.ofNumbers(64);
            if (left[i] < 64) {
                house.take(0, left[i], 0);
            }
            int bits = due[i];
            it.is(left[i] + " of 64", bits, () -> house.bits(0));
        }
        it.is("one of one", 0, () -> Houses.ofNumbers(1).bits(0));
        Guesswright three = Houses.ofNumbers(3);
        three.take(0, 2, 0);
        it.is("two of three", 0, () -> three.bits(0));
        three.take(0, 1, 0);
        it.is("one of three", 1, () -> three.bits(0));
        Guesswright codes = Houses.ofCodes(4, 6, true);
        codes.take(0, 0, 40);
        it.is("one of 1296", 10, () -> codes.bits(0));
        Guesswright few = Houses.ofMines(5, 2, 5, true);
        few.take(0, 0, 9);
        it.is("126 of 252", 1, () -> few.bits(0));
        few.back(0);
        it.is("all again", 0, () -> few.bits(0));
    }

    // ---- promise 36

    private void unlike() {
        it.is("no games", 0, () -> new Guesswright().unlike());
        it.is("one game", 1, () -> Houses.ofNumbers(1).unlike());
        it.is("eight that are unlike", 8, () -> Houses.full().unlike());
        Guesswright alike = new Guesswright();
        for (int game = 0; game < 8; game++) {
            alike.numbers(4);
        }
        it.is("eight that are alike", 1, alike::unlike);
        alike.take(7, 1, 1);
        it.is("the last one without its first thing", 2, alike::unlike);
        alike.take(0, 3, 0);
        it.is("the first one without its last thing", 3, alike::unlike);
        alike.back(0);
        alike.take(0, 1, 1);
        it.is("the first one and the last one alike", 2, alike::unlike);
        alike.clear();
        it.is("all taken away", 0, alike::unlike);
        Guesswright kinds = new Guesswright();
        kinds.numbers(4);
        kinds.coins(2, false);
        kinds.codes(2, 2, true);
        kinds.mines(2, 2, 1, true);
        kinds.fleets(2, 2, 1, true);
        kinds.vertices(4);
        kinds.graph();
        it.is("six kinds of four things", 1, kinds::unlike);
        kinds.numbers(5);
        kinds.take(6, 4, 0);
        it.is("four of five are not four of four", 2, kinds::unlike);
        kinds.setLies(0, 1);
        kinds.take(0, 2, 1);
        it.is("lies alone change no set", 2, kinds::unlike);
    }

    // ---- promises 37 and 38

    private void leftShare() {
        it.is("one of one", 1f, () -> Houses.ofNumbers(1).leftShare(0));
        Guesswright codes = Houses.ofCodes(4, 6, true);
        it.is("all of 1296", 1f, () -> codes.leftShare(0));
        codes.take(0, 1295, 40);
        it.is("one of 1296", 1f / 1296f, () -> codes.leftShare(0));
        codes.back(0);
        it.is("all again", 1f, () -> codes.leftShare(0));
        Guesswright mines = Houses.ofMines(4, 4, 4, true);
        mines.take(0, 0, 9);
        it.is("455 of 1820", 0.25f, () -> mines.leftShare(0));
        Guesswright numbers = Houses.ofNumbers(49);
        numbers.take(0, 1, 0);
        it.is("one of 49", 1f / 49f, () -> numbers.leftShare(0));
    }

    private void meanLeft() {
        it.is("one of one", 1.0, () -> Houses.ofNumbers(1).meanLeft(0, 109));
        Guesswright path = Houses.ofPath(20);
        it.is("each alone", 1.0, () -> path.meanLeft(0, 0));
        Guesswright house = Houses.ofNumbers(64);
        house.take(0, 49, 0);
        it.is("all in one part", 49.0, () -> house.meanLeft(0, 63));
        it.is("one apart", (48.0 * 48.0 + 1.0) / 49.0, () -> house.meanLeft(0, 48));
        Guesswright codes = Houses.ofCodes(4, 6, true);
        it.is("of 1296", 240108.0 / 1296.0, () -> codes.meanLeft(0, 8));
    }

    // ---- promise 39

    private void thingsAreLeft() {
        it.is("no games", true, () -> new Guesswright().isTrue());
        Guesswright house = Houses.full();
        it.is("eight games", true, house::isTrue);
        for (int game = 1; game < 8; game++) {
            house.take(game, 1, 0);
        }
        it.is("one thing left in each", true, house::isTrue);
        house.clear();
        it.is("none again", true, house::isTrue);
    }

    private void liesGivenAnew() {
        Guesswright house = Houses.ofNumbers(2);
        house.setLies(0, 3);
        takeAgain(house, 1, 1, 30);
        it.is("30 lies of one thing", true, house::isTrue);
        for (int back = 0; back < 30; back++) {
            house.back(0);
        }
        it.is("all are taken back", true, house::isTrue);
        house.setLies(0, 1);
        house.take(0, 1, HIGH);
        it.is("an answer that none gives", true, house::isTrue);
    }

    private void firstQuestion() {
        for (Maker kind : kinds()) {
            it.is("all are left", true, () -> kind.make().isTrue());
        }
    }

    private void eightLeft() {
        Guesswright house = new Guesswright();
        for (int vertices = 7; vertices <= 10; vertices++) {
            house.vertices(vertices);
            house.graph();
        }
        house.numbers(8);
        house.numbers(9);
        it.is("eight, and one more", true, house::isTrue);
        house.take(2, 0, 99);
        it.is("eight of nine", true, house::isTrue);
        Guesswright alike = Houses.ofFleetsAlike();
        it.is("two that cannot be told apart", true, alike::isTrue);
        Guesswright coins = Houses.ofCoins(4, false);
        it.is("eight kinds of coins", true, coins::isTrue);
        coins.setLies(0, 3);
        it.is("with lies", true, coins::isTrue);
    }
}
