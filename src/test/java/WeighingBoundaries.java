/** Boundaries that promises 23 to 26 name: questions weighed, the best one, finding by the best ones. */
final class WeighingBoundaries extends Boundaries {
    WeighingBoundaries(Sentences sentences, Checks checks) {
        super(sentences, checks);
    }

    @Override
    void all() {
        of(23, "- `what`: 'w' at worst, 's' in squares, 'p' in parts", this::weights);
        noSuchGame(23, (house, game) -> house.weigh(game, 102, 'w'), (house, game) -> house.weigh(game, 0, 'w'),
                (house, game) -> house.weigh(game, 102, 'x'));
        of(23, "Throws `IllegalArgumentException` if there is no such question or thing", () -> {
            refuseQuestions((house, game, question) -> house.weigh(game, question, 'w'));
            refuseQuestions((house, game, question) -> house.weigh(game, question, 's'));
            refuseQuestions((house, game, question) -> house.weigh(game, question, 'p'));
            refuseLetters((house, what) -> house.weigh(0, 102, what));
        });
        of(24, "Returns how many things that are left would give an answer.", this::parts);
        noSuchGame(24, (house, game) -> house.part(game, 102, 0), (house, game) -> house.part(game, 0, 0));
        noSuchQuestion(24, (house, game, question) -> house.part(game, question, 0));
        of(25, "- `what`: 'w', 's' or 'p'", this::bestOfOne);
        noSuchGame(25, (house, game) -> house.best(game, 'w'), (house, game) -> house.best(game, 'x'));
        of(25, "Throws `IllegalArgumentException` if there is no such letter",
                () -> refuseLetters((house, what) -> house.best(0, what)));
        of(25, "Throws `NoSuchElementException` if the game has no questions", this::leastGamesHaveQuestions);
        find();
    }

    interface OfLetter {
        Object of(Guesswright house, char what);
    }

    private void refuseLetters(OfLetter call) {
        Guesswright house = Houses.ofNumbers(4);
        for (char bad : OTHER_LETTERS) {
            it.refuses("letter " + (int) bad, Checks.ARGUMENT, house, () -> call.of(house, bad));
        }
        for (char good : new char[] {'w', 's', 'p'}) {
            it.holds("letter " + good, call.of(house, good) != null);
        }
    }

    // ---- promise 23

    private void weights() {
        Guesswright one = Houses.ofNumbers(1);
        for (char what : new char[] {'w', 's', 'p'}) {
            it.is("one thing by " + what, 1L, () -> one.weigh(0, 109, what));
        }
        Guesswright most = Houses.ofMines(4, 4, 4, true);
        it.is("1820 things, of which 455 have a mine there, at worst", (long) ringPart(2), () -> most.weigh(0, 0, 'w'));
        long squares = 455L * 455;
        for (int beside = 0; beside <= 4; beside++) {
            squares += (long) ringPart(beside) * ringPart(beside);
        }
        long due = squares;
        it.is("in squares", due, () -> most.weigh(0, 0, 's'));
        it.is("a mine, or 0 to 4 beside", 6L, () -> most.weigh(0, 0, 'p'));
        Guesswright apart = Houses.ofPath(20);
        it.is("each alone at worst", 1L, () -> apart.weigh(0, 19, 'w'));
        it.is("each alone in squares", 20L, () -> apart.weigh(0, 19, 's'));
        it.is("each alone in parts", 20L, () -> apart.weigh(0, 0, 'p'));
        Guesswright together = Houses.ofNumbers(64);
        together.take(0, 63, 0);
        it.is("all in one part, at worst", 63L, () -> together.weigh(0, 63, 'w'));
        it.is("all in one part, in squares", 3969L, () -> together.weigh(0, 63, 's'));
        it.is("all in one part, in parts", 1L, () -> together.weigh(0, 63, 'p'));
    }

    /** Four mines, none at the cell, so many of them among the 8 beside it, the others among the 7 beyond. */
    private static int ringPart(int beside) {
        return choose(8, beside) * choose(7, 4 - beside);
    }

    // ---- promise 24

    private void parts() {
        Guesswright house = Houses.ofPath(20);
        it.is("the nearest", 1, () -> house.part(0, 0, 0));
        it.is("the farthest", 1, () -> house.part(0, 0, 19));
        for (int other : new int[] {LOW, -1, 20, 99, 100, HIGH}) {
            it.is("none by " + other, 0, () -> house.part(0, 0, other));
        }
        Guesswright lone = Houses.ofLoneVertices(20);
        it.is("without a way", 19, () -> lone.part(0, 0, 99));
        lone.take(0, 0, 0);
        it.is("none is left of these", 0, () -> lone.part(0, 0, 99));
        it.is("one is", 1, () -> lone.part(0, 0, 0));
        Guesswright codes = Houses.ofCodes(4, 6, true);
        it.is("all places right", 1, () -> codes.part(0, 0, 40));
        it.is("nothing right", 625, () -> codes.part(0, 0, 0));
        it.is("three right and one elsewhere never are", 0, () -> codes.part(0, 7, 31));
        Guesswright mines = Houses.ofMines(5, 5, 2, true);
        it.is("a mine", 24, () -> mines.part(0, 24, 9));
        it.is("both mines beside", 28, () -> mines.part(0, 24, 2));
        it.is("three beside never are", 0, () -> mines.part(0, 24, 3));
    }

    // ---- promise 25

    /** If one thing is left, each question is as good, but of codes the one that it is itself. */
    private void bestOfOne() {
        for (char what : new char[] {'w', 's', 'p'}) {
            Guesswright house = Houses.ofNumbers(1);
            it.is("one number by " + what, 102, () -> house.best(0, what));
            house.numbers(64);
            it.is("64 numbers by " + what, what == 'w' ? 108 : 109, () -> house.best(1, what));
            house.take(1, 63, 1);
            it.is("one of 64 by " + what, 1, () -> house.best(1, what));
            house.codes(2, 3, true);
            house.take(2, 8, 20);
            it.is("one code that is left by " + what, 8, () -> house.best(2, what));
            house.codes(1, 1, true);
            it.is("one code in all by " + what, 0, () -> house.best(3, what));
            house.coins(2, false);
            it.is("two coins by " + what, 5, () -> house.best(4, what));
            house.fleets(5, 5, 555, false);
            it.is("cells that tell nothing go behind, by " + what, 1, () -> house.best(5, what));
            house.mines(5, 5, 25, true);
            it.is("all mines by " + what, 0, () -> house.best(6, what));
            house.graph();
            it.is("one vertex by " + what, 0, () -> house.best(7, what));
        }
    }

    private void leastGamesHaveQuestions() {
        Guesswright house = new Guesswright();
        house.codes(1, 1, false);
        house.numbers(1);
        house.coins(2, false);
        house.fleets(1, 1, 1, false);
        house.mines(1, 1, 0, false);
        house.mines(1, 1, 1, true);
        house.graph();
        int[] due = {0, 102, 5, 0, 0, 0, 0};
        for (int game = 0; game < due.length; game++) {
            int at = game;
            it.holds("game " + game + " has questions", house.questions(game) > 0);
            it.is("the best of game " + game, due[game], () -> house.best(at, 'w'));
        }
    }

    // ---- promise 26

    private void find() {
        of(26, "- `game`: the game, which stays as it is", () -> {
            Guesswright house = Houses.ofCodes(3, 3, true);
            house.take(0, 1, 10);
            String before = Checks.stateOf(house);
            for (int index = 0; index < house.left(0); index++) {
                house.find(0, house.leftAt(0, index), 'w');
            }
            it.is("as it was", before, () -> Checks.stateOf(house));
        });
        of(26, "- `thing`: a thing that is left", this::findEach);
        of(26, "- `what`: 'w', 's' or 'p'", () -> {
            for (char what : new char[] {'w', 's', 'p'}) {
                Guesswright house = Houses.ofNumbers(10);
                it.is("0 or 9, by " + what, 2, () -> house.find(0, 9, what));
                it.is("one of 1 to 8, by " + what, what == 'w' ? 2 : 1, () -> house.find(0, 1, what));
            }
        });
        of(26, "Returns how many until it alone is left, 0 if it is.", () -> {
            for (char what : new char[] {'w', 's', 'p'}) {
                it.is("one in all", 0, () -> Houses.ofNumbers(1).find(0, 0, what));
                it.is("one of two", 1, () -> Houses.ofNumbers(2).find(0, 0, what));
                it.is("one mine everywhere", 0, () -> Houses.ofMines(5, 5, 25, true).find(0, 0, what));
                Guesswright house = Houses.ofCodes(4, 6, true);
                house.take(0, 1295, 40);
                it.is("one that is left", 0, () -> house.find(0, 1295, what));
            }
        });
        of(26, "Throws `IndexOutOfBoundsException` if there is no such game or thing", () -> {
            refuseThings((house, game, thing) -> house.find(game, thing, 'w'));
            refuseThings((house, game, thing) -> house.find(game, thing, 'x'));
        });
        of(26, "Throws `IllegalArgumentException` if there is no such letter", () -> {
            refuseLetters((house, what) -> house.find(0, 3, what));
            Guesswright lies = Houses.ofFleetsAlike();
            lies.setLies(0, 3);
            Guesswright notLeft = Houses.ofNumbers(4);
            notLeft.take(0, 1, 1);
            for (char bad : OTHER_LETTERS) {
                it.refuses("ahead of lies " + (int) bad, Checks.ARGUMENT, lies, () -> lies.find(0, 0, bad));
                it.refuses("ahead of not left " + (int) bad, Checks.ARGUMENT, notLeft, () -> notLeft.find(0, 0, bad));
            }
        });
        of(26, "Throws `UnsupportedOperationException` if the game may have lies, or the thing is not left, "
                + "or the best question leaves all", this::cannotFind);
    }

    /** Vertices without edges are asked for one by one, so that the last two are found at once. */
    private void findEach() {
        Guesswright house = Houses.ofLoneVertices(20);
        for (int vertex = 0; vertex < 20; vertex++) {
            int thing = vertex;
            it.is("vertex " + vertex, Math.min(19, vertex + 1), () -> house.find(0, thing, 'w'));
        }
        Guesswright apart = Houses.ofPath(20);
        it.is("the first of a path", 1, () -> apart.find(0, 0, 'p'));
        it.is("the last of a path", 1, () -> apart.find(0, 19, 's'));
        Guesswright codes = Houses.ofCodes(4, 6, true);
        it.holds("the first code", codes.find(0, 0, 'w') <= 4);
        it.holds("the last code", codes.find(0, 1295, 'w') <= 4);
    }

    private void cannotFind() {
        for (char what : new char[] {'w', 's', 'p'}) {
            for (int lies = 1; lies <= 3; lies++) {
                Guesswright house = Houses.ofNumbers(1);
                house.setLies(0, lies);
                it.refuses(lies + " lies, though one thing is left", Checks.UNSUPPORTED, house,
                        () -> house.find(0, 0, what));
                house.setLies(0, 0);
                it.is("no lies again", 0, () -> house.find(0, 0, what));
            }
            Guesswright gone = Houses.ofNumbers(4);
            gone.take(0, 2, 1);
            it.refuses("the first is not left", Checks.UNSUPPORTED, gone, () -> gone.find(0, 0, what));
            it.refuses("the second is not left", Checks.UNSUPPORTED, gone, () -> gone.find(0, 1, what));
            it.is("the third is", 1, () -> gone.find(0, 2, what));
            gone.back(0);
            it.is("the first is left again", 1, () -> gone.find(0, 0, what));
            Guesswright alike = Houses.ofFleetsAlike();
            it.refuses("at once", Checks.UNSUPPORTED, alike, () -> alike.find(0, 0, what));
            Guesswright coins = Houses.ofCoins(2, true);
            it.is("all alike is found", 1, () -> coins.find(0, 0, what));
            it.refuses("after one question, two are not told apart", Checks.UNSUPPORTED, coins,
                    () -> coins.find(0, 1, what));
        }
    }
}
