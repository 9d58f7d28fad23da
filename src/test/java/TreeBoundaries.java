/** Boundaries that promises 27 to 31 name: trees, sets of questions, proofs, weights. */
final class TreeBoundaries extends Boundaries {
    TreeBoundaries(Sentences sentences, Checks checks) {
        super(sentences, checks);
    }

    @Override
    void all() {
        depth();
        leastSum();
        atOnce();
        proof();
        weight();
    }

    /** With 1 to 3 lies a call is refused, however little is left; without lies it answers. */
    private void refusesLies(String what, Guesswright house, Object due, InHouse call) {
        for (int lies = 1; lies <= 3; lies++) {
            house.setLies(0, lies);
            it.refuses(what + ", " + lies + " lies", Checks.UNSUPPORTED, house, () -> call.in(house));
        }
        house.setLies(0, 0);
        it.is(what + ", no lies", due, () -> call.in(house));
    }

    /** One more is left than the call allows; taking the lowest number off brings it to the limit. */
    private void refusesOneMore(int most, Object due, InHouse call) {
        Guesswright house = Houses.ofNumbers(most + 1);
        it.refuses("of numbers " + (most + 1), Checks.UNSUPPORTED, house, () -> call.in(house));
        house.take(0, 1, 1);
        it.is("of numbers " + most, due, () -> call.in(house));
        house.back(0);
        it.refuses("of numbers again " + (most + 1), Checks.UNSUPPORTED, house, () -> call.in(house));
        Guesswright all = Houses.ofCodes(4, 6, true);
        it.refuses("of 1296 codes", Checks.UNSUPPORTED, all, () -> call.in(all));
    }

    /** Sizes of what is left behind an answer, some of which no question tells apart. */
    private static Guesswright ofAlike(int left) {
        Guesswright house = new Guesswright();
        if (left == 10) {
            house.fleets(2, 4, 232, true);
            house.take(0, 2, 2);
        } else if (left == 11) {
            house.fleets(2, 3, 22, true);
        } else if (left == 12) {
            house.fleets(2, 3, 131, true);
        } else if (left == 13) {
            house.fleets(2, 4, 22, true);
            house.take(0, 0, 2);
        } else if (left == 14) {
            house.fleets(2, 3, 122, true);
            house.take(0, 0, 2);
        } else if (left == 15) {
            house.fleets(3, 3, 223, true);
            house.take(0, 1, 3);
        } else if (left == 60) {
            house.fleets(2, 4, 121, true);
            house.take(0, 0, 2);
        } else {
            house.fleets(4, 4, 22, true);
        }
        return house;
    }

    /** More things than the call allows are told ahead of that they cannot be told apart. */
    private void refusesAlike(int[] within, int[] beyond, InHouse call) {
        for (int left : within) {
            Guesswright house = ofAlike(left);
            it.is("alike ones that are left", left, () -> house.left(0));
            it.refuses("of " + left + " that are alike", Checks.MISSING, house, () -> call.in(house));
        }
        for (int left : beyond) {
            Guesswright house = ofAlike(left);
            it.is("alike ones that are left", left, () -> house.left(0));
            it.refuses("of " + left + " that are alike", Checks.UNSUPPORTED, house, () -> call.in(house));
        }
        Guesswright two = Houses.ofFleetsAlike();
        it.refuses("of two that are alike", Checks.MISSING, two, () -> call.in(two));
        two.setLies(0, 1);
        it.refuses("of two that are alike, with a lie", Checks.UNSUPPORTED, two, () -> call.in(two));
        Guesswright coins = Houses.ofCoins(2, false);
        it.refuses("of two coins", Checks.MISSING, coins, () -> call.in(coins));
    }

    // ---- promise 27

    private void depth() {
        noSuchGame(27, Guesswright::depth);
        of(27, "Returns the depth.", () -> {
            it.is("one thing", 0, () -> Houses.ofNumbers(1).depth(0));
            it.is("one of 1296", 0, () -> oneCode().depth(0));
            it.is("two things", 1, () -> Houses.ofNumbers(2).depth(0));
            it.is("14 things, each alone", 1, () -> Houses.ofPath(14).depth(0));
            it.is("14 things, one by one", 13, () -> Houses.ofLoneVertices(14).depth(0));
        });
        of(27, "Throws `UnsupportedOperationException` if it may have lies, or more than 14 things are left", () -> {
            refusesLies("one number", Houses.ofNumbers(1), 0, house -> house.depth(0));
            refusesLies("14 numbers", Houses.ofNumbers(14), 2, house -> house.depth(0));
            refusesOneMore(14, 2, house -> house.depth(0));
            Guesswright lone = Houses.ofLoneVertices(15);
            it.refuses("15 vertices", Checks.UNSUPPORTED, lone, () -> lone.depth(0));
            lone.take(0, 14, 99);
            it.is("14 of 15 vertices", 13, () -> lone.depth(0));
            it.is("14 kinds of coins", 3, () -> Houses.ofCoins(7, false).depth(0));
            Guesswright coins = Houses.ofCoins(7, true);
            it.refuses("15 kinds of coins", Checks.UNSUPPORTED, coins, () -> coins.depth(0));
        });
        of(27, "Throws `NoSuchElementException` if they cannot be told apart", () -> {
            refusesAlike(new int[] {10, 11, 12, 13, 14}, new int[] {15, 60}, house -> house.depth(0));
            Guesswright one = Houses.ofCoins(2, true);
            one.take(0, 5, 0);
            it.is("one that is left of some that are alike", 0, () -> one.depth(0));
        });
    }

    private static Guesswright oneCode() {
        Guesswright house = Houses.ofCodes(4, 6, true);
        house.take(0, 1295, 40);
        return house;
    }

    // ---- promise 28

    private void leastSum() {
        noSuchGame(28, Guesswright::leastSum);
        of(28, "Returns the sum.", () -> {
            it.is("one thing", 0, () -> Houses.ofNumbers(1).leastSum(0));
            it.is("one of 1296", 0, () -> oneCode().leastSum(0));
            it.is("two things", 2, () -> Houses.ofNumbers(2).leastSum(0));
            it.is("10 things, each alone", 10, () -> Houses.ofPath(10).leastSum(0));
            it.is("10 things, one by one", 54, () -> Houses.ofLoneVertices(10).leastSum(0));
        });
        of(28, "Throws `UnsupportedOperationException` if it may have lies, or more than 10 things are left", () -> {
            refusesLies("one number", Houses.ofNumbers(1), 0, house -> house.leastSum(0));
            refusesLies("10 numbers", Houses.ofNumbers(10), 12, house -> house.leastSum(0));
            refusesOneMore(10, 12, house -> house.leastSum(0));
            Guesswright lone = Houses.ofLoneVertices(11);
            it.refuses("11 vertices", Checks.UNSUPPORTED, lone, () -> lone.leastSum(0));
            lone.take(0, 0, 99);
            it.is("10 of 11 vertices", 54, () -> lone.leastSum(0));
        });
        of(28, "Throws `NoSuchElementException` if they cannot be told apart", () -> {
            refusesAlike(new int[] {10}, new int[] {11, 12, 13, 14, 15, 60}, house -> house.leastSum(0));
            Guesswright one = Houses.ofCoins(2, true);
            one.take(0, 5, 0);
            it.is("one that is left of some that are alike", 0, () -> one.leastSum(0));
        });
    }

    // ---- promise 29

    private void atOnce() {
        noSuchGame(29, Guesswright::atOnce);
        of(29, "Returns the fewest questions at once.", () -> {
            it.is("one thing needs none", 0, () -> Houses.ofNumbers(1).atOnce(0));
            it.is("two things", 1, () -> Houses.ofNumbers(2).atOnce(0));
            it.is("12 things, each alone", 1, () -> Houses.ofPath(12).atOnce(0));
            it.is("12 numbers", 2, () -> Houses.ofNumbers(12).atOnce(0));
            it.is("12 kinds of coins", 3, () -> Houses.ofCoins(6, false).atOnce(0));
        });
        of(29, "Throws `UnsupportedOperationException` if it may have lies, more than 12 things are left, "
                + "or it has more than 200 questions", () -> {
            refusesLies("one number", Houses.ofNumbers(1), 0, house -> house.atOnce(0));
            refusesLies("12 numbers", Houses.ofNumbers(12), 2, house -> house.atOnce(0));
            refusesOneMore(12, 2, house -> house.atOnce(0));
            Guesswright lone = Houses.ofLoneVertices(13);
            it.refuses("13 vertices, of which 3 are not enough", Checks.UNSUPPORTED, lone, () -> lone.atOnce(0));
            lone.take(0, 0, 99);
            it.refuses("12 vertices, of which 3 are not enough", Checks.MISSING, lone, () -> lone.atOnce(0));
            manyQuestions(house -> house.atOnce(0));
        });
        of(29, "Throws `NoSuchElementException` if 3 are not enough", () -> {
            it.is("3 of 4 vertices are", 3, () -> Houses.ofLoneVertices(4).atOnce(0));
            for (int vertices = 5; vertices <= 12; vertices++) {
                Guesswright lone = Houses.ofLoneVertices(vertices);
                it.refuses("3 of " + vertices + " vertices", Checks.MISSING, lone, () -> lone.atOnce(0));
            }
            Guesswright lone = Houses.ofLoneVertices(5);
            lone.take(0, 4, 99);
            it.is("the fifth is ruled out", 3, () -> lone.atOnce(0));
            refusesAlike(new int[] {10, 11, 12}, new int[] {13, 14, 15, 60}, house -> house.atOnce(0));
        });
    }

    /** Things are few, but questions many, however little is left; 140 questions are not too many. */
    private void manyQuestions(InHouse call) {
        Guesswright[] many = {Houses.ofCodes(3, 6, true), Houses.ofCodes(4, 4, true), Houses.ofCodes(4, 6, true)};
        for (Guesswright house : many) {
            house.take(0, 0, house.answer(0, 0, 0));
            it.is("one is left of " + house.questions(0), 1, () -> house.left(0));
            it.refuses("one is left of " + house.questions(0), Checks.UNSUPPORTED, house, () -> call.in(house));
        }
        Guesswright coins = Houses.ofCoins(7, true);
        coins.take(0, 1 + 2 * 3, 1);
        it.refuses("few are left of 392", Checks.UNSUPPORTED, coins, () -> call.in(coins));
        Guesswright fewer = Houses.ofCodes(4, 5, false);
        fewer.take(0, fewer.told(0, 0), 40);
        it.is("one is left of 120", 0, () -> call.in(fewer));
        Guesswright balances = Houses.ofCoins(6, true);
        balances.take(0, 1 + 3 + 9 + 2 * (27 + 81 + 243), 0);
        it.is("one is left of 140", 0, () -> call.in(balances));
    }

    // ---- promise 30

    private void proof() {
        of(30, "- `thing`: a thing that is left", () -> {
            Guesswright house = Houses.ofNumbers(60);
            for (int thing : new int[] {0, 59}) {
                it.is("at an edge, " + thing, 1, () -> house.proof(0, thing));
            }
            for (int thing : new int[] {1, 30, 58}) {
                it.is("between, " + thing, 2, () -> house.proof(0, thing));
            }
        });
        of(30, "Returns the fewest questions that prove a thing.", () -> {
            it.is("one thing needs none", 0, () -> Houses.ofNumbers(1).proof(0, 0));
            it.is("the lower of two", 1, () -> Houses.ofNumbers(2).proof(0, 0));
            it.is("the higher of two", 1, () -> Houses.ofNumbers(2).proof(0, 1));
            it.is("one of 20 vertices", 1, () -> Houses.ofLoneVertices(20).proof(0, 19));
            it.is("three ships of one cell among 56 ways", 3, () -> Houses.ofFleets(2, 4, 111, true).proof(0, 0));
        });
        of(30, "Throws `IndexOutOfBoundsException` if there is no such game or thing",
                () -> refuseThings(Guesswright::proof));
        of(30, "Throws `UnsupportedOperationException` if it may have lies, the thing is not left, "
                + "more than 60 things are left, or it has more than 200 questions", this::noProof);
        of(30, "Throws `NoSuchElementException` if 3 are not enough", () -> {
            Guesswright longShips = Houses.ofFleets(2, 5, 33, true);
            it.is("nine ways", 9, () -> longShips.things(0));
            it.is("the first way", 2, () -> longShips.proof(0, 0));
            it.is("the second way", 3, () -> longShips.proof(0, 1));
            it.refuses("the sixth way", Checks.MISSING, longShips, () -> longShips.proof(0, 5));
            refusesAlike(new int[0], new int[0], house -> house.proof(0, 0));
            Guesswright sixty = ofAlike(60);
            it.is("60 ways, some of them alike", 60, () -> sixty.left(0));
            it.refuses("one of these", Checks.MISSING, sixty, () -> sixty.proof(0, sixty.leftAt(0, 0)));
        });
    }

    private void noProof() {
        refusesLies("one number", Houses.ofNumbers(1), 0, house -> house.proof(0, 0));
        refusesLies("60 numbers", Houses.ofNumbers(60), 2, house -> house.proof(0, 30));
        refusesOneMore(60, 1, house -> house.proof(0, house.leftAt(0, 0)));
        manyQuestions(house -> house.proof(0, house.leftAt(0, 0)));
        Guesswright gone = Houses.ofNumbers(4);
        gone.take(0, 2, 0);
        it.refuses("the third is not left", Checks.UNSUPPORTED, gone, () -> gone.proof(0, 2));
        it.refuses("the last is not left", Checks.UNSUPPORTED, gone, () -> gone.proof(0, 3));
        it.is("the second is left", 1, () -> gone.proof(0, 1));
        gone.back(0);
        it.is("the last is left again", 1, () -> gone.proof(0, 3));
        Guesswright alike = ofAlike(0);
        it.is("pairs of places without a cell in common", 276 - 52, () -> alike.left(0));
        it.refuses("too many that are alike", Checks.UNSUPPORTED, alike, () -> alike.proof(0, 0));
    }

    // ---- promise 31

    private void weight() {
        of(31, "- `questions`: how many, 0 to 40", () -> {
            long[] none = {1, 1, 1, 1};
            long[] one = {1, 2, 2, 2};
            long[] two = {1, 3, 4, 4};
            long[] most = {1, 41, 821, 10701};
            for (int lies = 0; lies <= 3; lies++) {
                Guesswright house = Houses.ofNumbers(2);
                house.setLies(0, lies);
                int at = lies;
                it.is("none to come, " + lies + " lies", 2 * none[at], () -> house.weight(0, 0));
                it.is("one to come, " + lies + " lies", 2 * one[at], () -> house.weight(0, 1));
                it.is("two to come, " + lies + " lies", 2 * two[at], () -> house.weight(0, 2));
                it.is("40 to come, " + lies + " lies", 2 * most[at], () -> house.weight(0, 40));
            }
            Guesswright house = Houses.ofMines(4, 4, 4, true);
            house.setLies(0, 3);
            it.is("the most things and lies and questions", 1820L * 10701, () -> house.weight(0, 40));
        });
        noSuchGame(31, (house, game) -> house.weight(game, 0), (house, game) -> house.weight(game, -1),
                (house, game) -> house.weight(game, 41));
        of(31, "Throws `IllegalArgumentException` if the number is out of range", () -> {
            for (Maker kind : kinds()) {
                refusesNumbers("questions", Checks.ARGUMENT, kind.make(), Guesswright::weight, LOW, -1, 41, 64, HIGH);
            }
        });
    }
}
