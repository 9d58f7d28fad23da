/** Boundaries that promises 12 to 22 name: things, answers taken and taken back, the adversary, draws. */
final class AnswerBoundaries extends Boundaries {
    AnswerBoundaries(Sentences sentences, Checks checks) {
        super(sentences, checks);
    }

    @Override
    void all() {
        noSuchGame(12, Guesswright::things);
        noSuchGame(13, Guesswright::left);
        leftAt();
        of(15, "a coin by twice its number, plus 1 if it is lighter, -1 for all alike", this::toldCoins);
        of(15, "a fleet or mines by the set of cells.", this::toldGrids);
        of(15, "Throws `IndexOutOfBoundsException` if there is no such game or thing",
                () -> refuseThings(Guesswright::told));
        of(16, "Returns how many lies a thing has.", this::liesOfThings);
        of(16, "Throws `IndexOutOfBoundsException` if there is no such game or thing",
                () -> refuseThings(Guesswright::liesOf));
        of(17, "Returns how many questions a game has.", this::questions);
        noSuchGame(17, Guesswright::questions);
        of(18, "Throws `IndexOutOfBoundsException` if there is no such game or thing", this::noThingToAnswer);
        noSuchQuestion(18, (house, game, question) -> house.answer(game, 0, question));
        take();
        back();
        adverse();
        draw();
    }

    // ---- promise 14

    private void leftAt() {
        of(14, "- `index`: the index, from 0, by rising numbers", () -> {
            Guesswright house = Houses.ofNumbers(64);
            house.take(0, 107, 6);
            for (int index = 0; index < 9; index++) {
                int at = index;
                it.is("thing " + index + " of 9", 6 + 7 * index, () -> house.leftAt(0, at));
            }
            house.take(0, 62, 1);
            it.is("the last one alone", 62, () -> house.leftAt(0, 0));
        });
        noSuchGame(14, (house, game) -> house.leftAt(game, 0), (house, game) -> house.leftAt(game, -1),
                (house, game) -> house.leftAt(game, HIGH));
        of(14, "Throws `NoSuchElementException` if there is no such thing", () -> {
            for (Maker kind : kinds()) {
                Guesswright house = kind.make();
                int left = house.left(0);
                it.is("the last of " + left, left - 1, () -> house.leftAt(0, left - 1));
                refusesNumbers("of " + left + ", index", Checks.MISSING, house, Guesswright::leftAt, LOW, -1, left,
                        left + 1, 2000, HIGH);
            }
            Guesswright house = Houses.ofNumbers(64);
            house.take(0, 1, 0);
            refusesNumbers("of one that is left, index", Checks.MISSING, house, Guesswright::leftAt, -1, 1, 63);
            house.back(0);
            it.is("all are left again", 63, () -> house.leftAt(0, 63));
        });
    }

    // ---- promises 15 to 18

    private void toldCoins() {
        for (int coins = 2; coins <= 7; coins++) {
            Guesswright house = Houses.ofCoins(coins, true);
            Guesswright unlike = Houses.ofCoins(coins, false);
            int last = 2 * coins - 1;
            it.is("all alike", -1, () -> house.told(0, 0));
            it.is("the first is heavier", 0, () -> house.told(0, 1));
            it.is("the first is lighter", 1, () -> house.told(0, 2));
            it.is("the last is lighter", last, () -> house.told(0, last + 1));
            it.is("the first is heavier, as never all are alike", 0, () -> unlike.told(0, 0));
            it.is("the last is lighter, as never all are alike", last, () -> unlike.told(0, last));
        }
    }

    private void toldGrids() {
        Guesswright house = Houses.ofFleets(5, 5, 5, true);
        it.is("the first place, across", 31, () -> house.told(0, 0));
        it.is("the second one, down", 0b0000100001000010000100001, () -> house.told(0, 1));
        it.is("the last place, across", 31 << 20, () -> house.told(0, 9));
        house.fleets(5, 5, 1, true);
        it.is("the last cell", 1 << 24, () -> house.told(1, 24));
        house.mines(5, 5, 25, true);
        it.is("all cells", 33554431, () -> house.told(2, 0));
        house.mines(5, 5, 0, true);
        it.is("no cell", 0, () -> house.told(3, 0));
        house.mines(5, 5, 24, true);
        it.is("all but the last cell", 16777215, () -> house.told(4, 0));
        it.is("all but the first cell", 33554430, () -> house.told(4, 24));
    }

    private void liesOfThings() {
        Guesswright house = Houses.ofNumbers(2);
        it.is("none at first", 0, () -> house.liesOf(0, 0));
        house.setLies(0, 3);
        takeAgain(house, 1, 1, 30);
        it.is("as many as answers, above what the game may have", 30, () -> house.liesOf(0, 0));
        it.is("none of what is true", 0, () -> house.liesOf(0, 1));
        house.back(0);
        it.is("one is taken back", 29, () -> house.liesOf(0, 0));
        for (int back = 0; back < 29; back++) {
            house.back(0);
        }
        it.is("all are taken back", 0, () -> house.liesOf(0, 0));
    }

    private void questions() {
        int[] due = {9, 6, 1, 1296, 8, 9, 71, 2, 392, 1, 25, 5, 16, 1, 20};
        for (int kind = 0; kind < due.length; kind++) {
            Guesswright house = kinds().get(kind).make();
            it.is("kind " + kind, due[kind], () -> house.questions(0));
        }
    }

    private void noThingToAnswer() {
        int[] asked = {0, 1, 0, 0, 102, 1, 1, 5, 5, 0, 0, 0, 0, 0, 0};
        refuseThings((house, game, thing) -> house.answer(game, thing, HIGH));
        refuseThings((house, game, thing) -> house.answer(game, thing, LOW));
        for (int kind = 0; kind < asked.length; kind++) {
            Guesswright house = kinds().get(kind).make();
            int question = asked[kind];
            int things = house.things(0);
            refusesNumbers("kind " + kind + ", thing", Checks.INDEX, house,
                    (in, game, thing) -> in.answer(game, thing, question), LOW, -1, things, HIGH);
            it.holds("the last thing answers", house.answer(0, things - 1, question) >= 0);
        }
    }

    // ---- promise 19

    private void take() {
        noSuchGame(19, (house, game) -> house.take(game, 102, 0), (house, game) -> house.take(game, 0, 0),
                (house, game) -> house.take(game, 102, LOW));
        noSuchQuestion(19, (house, game, question) -> house.take(game, question, 77));
        of(19, "Throws `UnsupportedOperationException` if nothing would be left", this::nothingLeft);
        of(19, "Throws `IllegalStateException` if 30 answers were taken", this::thirtyTaken);
    }

    private void nothingLeft() {
        Guesswright house = Houses.ofNumbers(3);
        OfNumber half = (in, game, answer) -> in.take(game, 1, answer);
        OfNumber thirds = (in, game, answer) -> in.take(game, 103, answer);
        refusesNumbers("of three, answer", Checks.UNSUPPORTED, house, half, LOW, -1, 2, 99, HIGH);
        refusesNumbers("of three thirds, answer", Checks.UNSUPPORTED, house, thirds, LOW, -1, 3, HIGH);
        it.is("two of three are left", 2, () -> house.take(0, 1, 1));
        refusesNumbers("of two, answer", Checks.UNSUPPORTED, house, half, LOW, 0, HIGH);
        it.is("one of two is left", 1, () -> house.take(0, 103, 2));
        refusesNumbers("of one, answer", Checks.UNSUPPORTED, house, thirds, 0, 1, 3);
        it.is("what it gives leaves it", 1, () -> house.take(0, 103, 2));
        for (int lies = 0; lies <= 3; lies++) {
            nothingLeftByLies(lies);
        }
        for (Maker kind : kinds()) {
            Guesswright other = kind.make();
            int question = other.best(0, 'w');
            int all = other.things(0);
            it.is("an answer that none gives, as a lie", all, () -> other.take(0, question, HIGH));
            it.refuses("as a second lie", Checks.UNSUPPORTED, other, () -> other.take(0, question, LOW));
        }
    }

    private void nothingLeftByLies(int lies) {
        Guesswright house = Houses.ofNumbers(2);
        house.setLies(0, lies);
        for (int taken = 0; taken < lies; taken++) {
            it.is("lie " + taken + " of " + lies, 2, () -> house.take(0, 1, -1));
        }
        it.refuses("one lie above " + lies, Checks.UNSUPPORTED, house, () -> house.take(0, 1, -1));
        it.is("the truth of one of two", 1, () -> house.take(0, 1, 0));
        it.refuses("a lie then", Checks.UNSUPPORTED, house, () -> house.take(0, 1, 1));
    }

    private void thirtyTaken() {
        Guesswright house = Houses.ofNumbers(9);
        takeAgain(house, 102, 0, 29);
        it.is("the thirtieth", 2, () -> house.take(0, 104, 2));
        it.refuses("one more", Checks.STATE, house, () -> house.take(0, 104, 2));
        it.refuses("one that would tell more", Checks.STATE, house, () -> house.take(0, 108, 2));
        it.refuses("one that leaves nothing", Checks.UNSUPPORTED, house, () -> house.take(0, 104, 0));
        it.refuses("no such question", Checks.ARGUMENT, house, () -> house.take(0, 0, 2));
        it.refuses("no such game", Checks.INDEX, house, () -> house.take(1, 0, 2));
        it.is("the thirtieth is taken back", 5, () -> house.back(0));
        it.is("another one is the thirtieth", 1, () -> house.take(0, 108, 4));
        it.refuses("one more than that", Checks.STATE, house, () -> house.take(0, 108, 4));
        house.numbers(4);
        it.is("another game has none yet", 2, () -> house.take(1, 102, 0));
        Guesswright lies = Houses.ofNumbers(4);
        lies.setLies(0, 3);
        takeAgain(lies, 102, 0, 30);
        it.refuses("one more, though it may be a lie", Checks.STATE, lies, () -> lies.take(0, 102, 1));
    }

    // ---- promise 20

    private void back() {
        noSuchGame(20, Guesswright::back);
        of(20, "Throws `NoSuchElementException` if no answer was taken", () -> {
            for (Maker kind : kinds()) {
                Guesswright house = kind.make();
                int all = house.things(0);
                it.refuses("none was taken", Checks.MISSING, house, () -> house.back(0));
                house.take(0, house.best(0, 'w'), HIGH);
                it.is("the only one", all, () -> house.back(0));
                it.refuses("it is taken back", Checks.MISSING, house, () -> house.back(0));
            }
            Guesswright house = Houses.ofNumbers(4);
            takeAgain(house, 102, 0, 30);
            for (int left = 29; left >= 0; left--) {
                it.is(left + " stay", left > 0 ? 2 : 4, () -> house.back(0));
            }
            it.refuses("all are taken back", Checks.MISSING, house, () -> house.back(0));
            Guesswright two = Houses.ofGames(2);
            two.take(1, 1, 0);
            it.refuses("an answer of another game", Checks.MISSING, two, () -> two.back(0));
        });
    }

    // ---- promise 21

    private void adverse() {
        of(21, "the answer of the greatest part of the question, of several the least one, is taken",
                this::greatestPart);
        noSuchGame(21, (house, game) -> house.adverse(game, 102), (house, game) -> house.adverse(game, 0));
        noSuchQuestion(21, Guesswright::adverse);
        of(21, "Throws `IllegalStateException` if 30 answers were taken", () -> {
            Guesswright house = Houses.ofNumbers(9);
            takeAgain(house, 102, 0, 29);
            it.is("the thirtieth", 0, () -> house.adverse(0, 104));
            it.refuses("one more", Checks.STATE, house, () -> house.adverse(0, 104));
            it.refuses("no such question", Checks.ARGUMENT, house, () -> house.adverse(0, 110));
            it.refuses("no such game", Checks.INDEX, house, () -> house.adverse(1, 110));
            it.is("the thirtieth is taken back", 5, () -> house.back(0));
            it.is("the thirtieth anew", 1, () -> house.adverse(0, 4));
            it.is("it was taken", 3, () -> house.left(0));
            it.refuses("nor is one taken from others", Checks.STATE, house, () -> house.take(0, 4, 1));
        });
    }

    private void greatestPart() {
        Guesswright house = Houses.ofNumbers(10);
        it.is("of 5 and 5 the least", 0, () -> house.adverse(0, 5));
        it.is("of 2, 2, 1 the least", 0, () -> house.adverse(0, 103));
        it.is("of 1 and 1 the least", 0, () -> house.adverse(0, 102));
        it.is("of the only one", 0, () -> house.adverse(0, 109));
        it.is("which is left", 1, () -> house.left(0));
        Guesswright codes = Houses.ofCodes(1, 2, true);
        it.is("of 0 and 10 the least", 0, () -> codes.adverse(0, 0));
        it.is("the greatest answer, if it is alone", 10, () -> codes.adverse(0, 1));
        Guesswright three = Houses.ofLoneVertices(3);
        it.is("99 of two vertices", 99, () -> three.adverse(0, 0));
        it.is("0 of one and one", 0, () -> three.adverse(0, 1));
        Guesswright mines = Houses.ofMines(2, 1, 2, true);
        it.is("a mine that is sure", 9, () -> mines.adverse(0, 1));
    }

    // ---- promise 22

    private void draw() {
        of(22, "- `seed`: the seed, 0 to 99999", this::seeds);
        of(22, "is its index.", () -> {
            Guesswright house = Houses.ofMines(4, 4, 4, true);
            for (int cell = 0; cell < 3; cell++) {
                house.take(0, cell, 9);
            }
            it.is("16838 modulo 13, which are left, is 3", 0b1000111, () -> house.told(0, house.draw(0, 1)));
            house.take(0, 15, 9);
            for (int seed : new int[] {0, 1, 2, 99999}) {
                it.is("the only one, seed " + seed, house.leftAt(0, 0), () -> house.draw(0, seed));
            }
        });
        noSuchGame(22, (house, game) -> house.draw(game, 0), (house, game) -> house.draw(game, -1),
                (house, game) -> house.draw(game, 100000));
        of(22, "Throws `IllegalArgumentException` if the seed is out of range", () -> {
            for (Maker kind : kinds()) {
                refusesNumbers("seed", Checks.ARGUMENT, kind.make(), Guesswright::draw, LOW, -99999, -1, 100000, HIGH);
            }
        });
    }

    /** By hand: seeds 0, 1, 2, 3, 77 and 99999 come to 0, 16838, 908, 17747, 18597 and 30116 ahead of the last step. */
    private void seeds() {
        int[] seeds = {0, 1, 2, 3, 77, 99999};
        int[] cut = {0, 16838, 908, 17747, 18597, 30116};
        Guesswright house = Houses.ofMines(4, 4, 4, false);
        Guesswright small = Houses.ofNumbers(7);
        Guesswright one = Houses.ofNumbers(1);
        for (int i = 0; i < seeds.length; i++) {
            int seed = seeds[i];
            it.is("of 1820, seed " + seed, cut[i] % 1820, () -> house.draw(0, seed));
            it.is("of 7, seed " + seed, cut[i] % 7, () -> small.draw(0, seed));
            it.is("of 1, seed " + seed, 0, () -> one.draw(0, seed));
        }
    }
}
