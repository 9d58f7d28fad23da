/** Houses that many tests begin with. */
final class Houses {
    private Houses() {
    }

    /** A house with eight games, the last of them of numbers to 8. */
    static Guesswright full() {
        return ofGames(8);
    }

    /** Games of 1 number, 2 numbers, and so on. */
    static Guesswright ofGames(int many) {
        Guesswright house = new Guesswright();
        for (int game = 1; game <= many; game++) {
            house.numbers(game);
        }
        return house;
    }

    /** A house with one game of numbers. */
    static Guesswright ofNumbers(int many) {
        Guesswright house = new Guesswright();
        house.numbers(many);
        return house;
    }

    static Guesswright ofCodes(int places, int colours, boolean hasRepeats) {
        Guesswright house = new Guesswright();
        house.codes(places, colours, hasRepeats);
        return house;
    }

    /** A game of a graph without edges, in which each question tells one thing from the others. */
    static Guesswright ofLoneVertices(int vertices) {
        Guesswright house = new Guesswright();
        house.vertices(vertices);
        house.graph();
        return house;
    }

    /** A game of a graph whose vertices are joined one after another, by rising numbers. */
    static Guesswright ofPath(int vertices) {
        Guesswright house = new Guesswright();
        house.vertices(vertices);
        for (int vertex = 1; vertex < vertices; vertex++) {
            house.edge(vertex - 1, vertex);
        }
        house.graph();
        return house;
    }

    static Guesswright ofMines(int width, int height, int mines, boolean isRing) {
        Guesswright house = new Guesswright();
        house.mines(width, height, mines, isRing);
        return house;
    }

    static Guesswright ofFleets(int width, int height, int ships, boolean mayTouch) {
        Guesswright house = new Guesswright();
        house.fleets(width, height, ships, mayTouch);
        return house;
    }

    static Guesswright ofCoins(int coins, boolean mayBeAlike) {
        Guesswright house = new Guesswright();
        house.coins(coins, mayBeAlike);
        return house;
    }

    /** Two ships fill a grid of four cells, both across or both down, which no question tells apart. */
    static Guesswright ofFleetsAlike() {
        return ofFleets(2, 2, 22, true);
    }
}
