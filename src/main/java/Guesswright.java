import java.util.Arrays;
import java.util.NoSuchElementException;

/** A house of games of finding out. What each call promises stands in the document. */
public final class Guesswright {
    private static final int MOST_GAMES = 8;
    private static final int MOST_THINGS = 2000;
    private static final int MOST_QUESTIONS = 1296;
    private static final int MOST_ANSWERS = 100;
    private static final int MOST_TAKEN = 30;
    private static final int MOST_LIES = 3;
    private static final int MOST_PLACES = 4;
    private static final int MOST_COLOURS = 6;
    private static final int MOST_NUMBERS = 64;
    private static final int MOST_COINS = 7;
    private static final int MOST_SIDE = 5;
    private static final int MOST_CELLS = 25;
    private static final int MOST_SHIPS = 3;
    private static final int MOST_SHIP_PLACES = 50;
    private static final int MOST_VERTICES = 20;
    private static final int NO_WAY = 99;
    private static final int MINE = 9;
    private static final int REMAINDERS_FROM = 100;
    private static final int MOST_SEED = 99999;
    private static final int MOST_TO_COME = 40;
    private static final int MOST_FOR_DEPTH = 14;
    private static final int MOST_FOR_SUM = 10;
    private static final int MOST_FOR_SETS = 12;
    private static final int MOST_FOR_PROOF = 60;
    private static final int MOST_CHECKED_BY_TREE = 8;
    private static final int MOST_COVERS = 200;
    private static final int MOST_AT_ONCE = 3;
    private static final int ABOVE_ALL_BURDENS = MOST_THINGS * MOST_THINGS + 1;
    private static final int KEY_HOMES = 4096;
    private static final int[] POWERS_OF_THREE = {1, 3, 9, 27, 81, 243, 729, 2187};

    /** One row more than there are games: whether a fleet can be laid is told ahead of the house being full. */
    private final Rows[] rows = new Rows[MOST_GAMES + 1];
    private final Game[] games = new Game[MOST_GAMES];
    private final int[] neighbours = new int[MOST_VERTICES];
    private final Weigher weigher = new Weigher();
    private final Tree tree = new Tree();
    private final Cover cover = new Cover();
    private int gameCount = 0;
    private int vertexCount = 1;
    private int edgeCount = 0;

    public Guesswright() {
        for (int game = 0; game <= MOST_GAMES; game++) {
            rows[game] = new Rows();
        }
    }

    // ---- games

    public int codes(int places, int colours, boolean hasRepeats)
            throws IllegalArgumentException, IllegalStateException {
        if (isOutside(places, 1, MOST_PLACES) || isOutside(colours, 1, MOST_COLOURS)) {
            throw new IllegalArgumentException("places are 1 to 4, colours 1 to 6");
        }
        if (!hasRepeats && places > colours) {
            throw new IllegalArgumentException("there is no code");
        }
        return add(new Codes(freeRows(), places, colours, hasRepeats));
    }

    public int numbers(int many) throws IllegalArgumentException, IllegalStateException {
        if (isOutside(many, 1, MOST_NUMBERS)) {
            throw new IllegalArgumentException("numbers are 1 to 64");
        }
        return add(new Numbers(freeRows(), many));
    }

    public int coins(int coins, boolean mayBeAlike) throws IllegalArgumentException, IllegalStateException {
        if (isOutside(coins, 2, MOST_COINS)) {
            throw new IllegalArgumentException("coins are 2 to 7");
        }
        return add(new Coins(freeRows(), coins, mayBeAlike));
    }

    public int fleets(int width, int height, int ships, boolean mayTouch)
            throws IllegalArgumentException, IllegalStateException {
        if (isOutside(width, 1, MOST_SIDE) || isOutside(height, 1, MOST_SIDE) || !areShips(ships)) {
            throw new IllegalArgumentException("sides and ships are 1 to 5, ships at most three");
        }
        Fleets fleets = new Fleets(freeRows(), width, height, ships, mayTouch);
        if (fleets.thingCount == 0 || fleets.isTooMany) {
            throw new IllegalArgumentException("no way to lay the ships, or more than 2000");
        }
        return add(fleets);
    }

    public int mines(int width, int height, int mines, boolean isRing)
            throws IllegalArgumentException, IllegalStateException {
        if (isOutside(width, 1, MOST_SIDE) || isOutside(height, 1, MOST_SIDE)
                || isOutside(mines, 0, width * height)) {
            throw new IllegalArgumentException("sides are 1 to 5, mines at most the cells");
        }
        if (choose(width * height, mines) > MOST_THINGS) {
            throw new IllegalArgumentException("more than 2000 sets of mines");
        }
        return add(new Mines(freeRows(), width, height, mines, isRing));
    }

    public int vertices(int vertices) throws IllegalArgumentException {
        if (isOutside(vertices, 1, MOST_VERTICES)) {
            throw new IllegalArgumentException("vertices are 1 to 20");
        }
        int before = edgeCount;
        Arrays.fill(neighbours, 0);
        vertexCount = vertices;
        edgeCount = 0;
        return before;
    }

    public int edge(int one, int other) throws IndexOutOfBoundsException, IllegalArgumentException {
        if (isOutside(one, 0, vertexCount - 1) || isOutside(other, 0, vertexCount - 1)) {
            throw new IndexOutOfBoundsException("no such vertex");
        }
        if (one == other) {
            throw new IllegalArgumentException("an edge joins two vertices");
        }
        neighbours[one] ^= 1 << other;
        neighbours[other] ^= 1 << one;
        edgeCount += (neighbours[one] >> other & 1) != 0 ? 1 : -1;
        return edgeCount;
    }

    public int graph() throws IllegalStateException {
        return add(new Distances(freeRows(), neighbours, vertexCount));
    }

    public int clear() {
        int before = gameCount;
        gameCount = 0;
        return before;
    }

    public int setLies(int game, int lies)
            throws IndexOutOfBoundsException, IllegalArgumentException, UnsupportedOperationException {
        Game found = gameAt(game);
        if (isOutside(lies, 0, MOST_LIES)) {
            throw new IllegalArgumentException("lies are 0 to 3");
        }
        if (found.takenCount > 0) {
            throw new UnsupportedOperationException("an answer was taken");
        }
        int before = found.mayLie;
        found.mayLie = lies;
        return before;
    }

    // ---- things and answers

    public int things(int game) throws IndexOutOfBoundsException {
        return gameAt(game).thingCount;
    }

    public int left(int game) throws IndexOutOfBoundsException {
        return gameAt(game).restCount;
    }

    public int leftAt(int game, int index) throws IndexOutOfBoundsException, NoSuchElementException {
        Game found = gameAt(game);
        if (isOutside(index, 0, found.restCount - 1)) {
            throw new NoSuchElementException("no such thing is left");
        }
        return found.rows.rest[index];
    }

    public int told(int game, int thing) throws IndexOutOfBoundsException {
        return gameWith(game, thing).rows.tellings[thing];
    }

    public int liesOf(int game, int thing) throws IndexOutOfBoundsException {
        return gameWith(game, thing).rows.lies[thing];
    }

    public int questions(int game) throws IndexOutOfBoundsException {
        return gameAt(game).questionCount;
    }

    public int answer(int game, int thing, int question) throws IndexOutOfBoundsException, IllegalArgumentException {
        Game found = gameWith(game, thing);
        return found.answerOf(thing, indexIn(found, question));
    }

    public int take(int game, int question, int answer)
            throws IndexOutOfBoundsException, IllegalArgumentException, UnsupportedOperationException,
            IllegalStateException {
        Game found = gameAt(game);
        int index = indexIn(found, question);
        if (!found.leavesAny(index, answer)) {
            throw new UnsupportedOperationException("nothing would be left");
        }
        refuseMoreTaken(found);
        found.takeAnswer(index, answer);
        return found.restCount;
    }

    public int back(int game) throws IndexOutOfBoundsException, NoSuchElementException {
        Game found = gameAt(game);
        if (found.takenCount == 0) {
            throw new NoSuchElementException("no answer was taken");
        }
        found.takeBack();
        return found.restCount;
    }

    public int adverse(int game, int question)
            throws IndexOutOfBoundsException, IllegalArgumentException, IllegalStateException {
        Game found = gameAt(game);
        int index = indexIn(found, question);
        refuseMoreTaken(found);
        weigher.weighParts(found, found.rows.rest, found.restCount, index);
        int answer = weigher.greatestAnswer();
        found.takeAnswer(index, answer);
        return answer;
    }

    public int draw(int game, int seed) throws IndexOutOfBoundsException, IllegalArgumentException {
        Game found = gameAt(game);
        if (isOutside(seed, 0, MOST_SEED)) {
            throw new IllegalArgumentException("seeds are 0 to 99999");
        }
        int drawn = (int) ((seed * 1103515245L + 12345L) % 2147483648L / 65536L);
        return found.rows.rest[drawn % found.restDivisor()];
    }

    // ---- questions weighed

    public long weigh(int game, int question, char what) throws IndexOutOfBoundsException, IllegalArgumentException {
        Game found = gameAt(game);
        int index = indexIn(found, question);
        refuseOtherLetters(what);
        weigher.weighParts(found, found.rows.rest, found.restCount, index);
        return what == 'w' ? weigher.worst : what == 's' ? weigher.squares : weigher.parts;
    }

    public int part(int game, int question, int answer) throws IndexOutOfBoundsException, IllegalArgumentException {
        Game found = gameAt(game);
        int index = indexIn(found, question);
        int count = 0;
        for (int i = 0; i < found.restCount; i++) {
            if (found.answerOf(found.rows.rest[i], index) == answer) {
                count++;
            }
        }
        return count;
    }

    public int best(int game, char what)
            throws IndexOutOfBoundsException, IllegalArgumentException, NoSuchElementException {
        Game found = gameAt(game);
        refuseOtherLetters(what);
        if (found.questionCount == 0) {
            throw new NoSuchElementException("the game has no questions");
        }
        return found.rows.questions[weigher.bestIndex(found, found.rows.rest, found.restCount, what)];
    }

    public int find(int game, int thing, char what)
            throws IndexOutOfBoundsException, IllegalArgumentException, UnsupportedOperationException {
        Game found = gameWith(game, thing);
        refuseOtherLetters(what);
        refuseLies(found);
        refuseNotLeft(found, thing);
        int asked = weigher.questionsToFind(found, thing, what);
        if (asked < 0) {
            throw new UnsupportedOperationException("the best question leaves all");
        }
        return asked;
    }

    // ---- trees, sets, proofs

    public int depth(int game)
            throws IndexOutOfBoundsException, UnsupportedOperationException, NoSuchElementException {
        loadTree(gameAt(game), MOST_FOR_DEPTH);
        return tree.leastDepth();
    }

    public int leastSum(int game)
            throws IndexOutOfBoundsException, UnsupportedOperationException, NoSuchElementException {
        loadTree(gameAt(game), MOST_FOR_SUM);
        return tree.leastTotal();
    }

    public int atOnce(int game)
            throws IndexOutOfBoundsException, UnsupportedOperationException, NoSuchElementException {
        Game found = gameAt(game);
        refuseLies(found);
        refuseForCover(found, MOST_FOR_SETS);
        cover.loadPairs(found);
        return fewestCovers();
    }

    public int proof(int game, int thing)
            throws IndexOutOfBoundsException, UnsupportedOperationException, NoSuchElementException {
        Game found = gameWith(game, thing);
        refuseLies(found);
        refuseNotLeft(found, thing);
        refuseForCover(found, MOST_FOR_PROOF);
        cover.loadOthers(found, thing);
        return fewestCovers();
    }

    public long weight(int game, int questions) throws IndexOutOfBoundsException, IllegalArgumentException {
        Game found = gameAt(game);
        if (isOutside(questions, 0, MOST_TO_COME)) {
            throw new IllegalArgumentException("questions to come are 0 to 40");
        }
        long sum = 0;
        for (int i = 0; i < found.restCount; i++) {
            int mayYet = found.mayLie - found.rows.lies[found.rows.rest[i]];
            for (int lies = 0; lies <= mayYet; lies++) {
                sum += choose(questions, lies);
            }
        }
        return sum;
    }

    // ---- grids

    public int at(int game, int cell)
            throws IndexOutOfBoundsException, UnsupportedOperationException, IllegalArgumentException {
        Game found = gridAt(game);
        if (isOutside(cell, 0, found.cellCount - 1)) {
            throw new IllegalArgumentException("no such cell");
        }
        int count = 0;
        for (int i = 0; i < found.restCount; i++) {
            count += found.rows.tellings[found.rows.rest[i]] >> cell & 1;
        }
        return count;
    }

    public int sure(int game, boolean haveAll) throws IndexOutOfBoundsException, UnsupportedOperationException {
        Game found = gridAt(game);
        if (!haveAll) {
            return found.emptyCells(found.rows.rest, found.restCount);
        }
        int cells = found.allCells();
        for (int i = 0; i < found.restCount; i++) {
            cells &= found.rows.tellings[found.rows.rest[i]];
        }
        return cells;
    }

    public boolean isClear(int game, int thing, int cell)
            throws IndexOutOfBoundsException, UnsupportedOperationException, IllegalArgumentException {
        Game found = gameWith(game, thing);
        if (!(found instanceof Mines)) {
            throw new UnsupportedOperationException("no game of mines");
        }
        refuseLies(found);
        refuseNotLeft(found, thing);
        if (isOutside(cell, 0, found.cellCount - 1) || (found.rows.tellings[thing] >> cell & 1) != 0) {
            throw new IllegalArgumentException("no such cell, or a mine there");
        }
        return weigher.opensAll(found, thing, cell);
    }

    // ---- figures

    public int bits(int game) throws IndexOutOfBoundsException {
        Game found = gameAt(game);
        int bits = 0;
        while (bits < 11 && found.restCount << bits + 1 <= found.thingCount) {
            bits++;
        }
        return bits;
    }

    public int unlike() {
        int count = 0;
        for (int game = 0; game < gameCount; game++) {
            boolean isNew = true;
            for (int earlier = 0; earlier < game && isNew; earlier++) {
                isNew = !gameAt(game).leavesSameAs(gameAt(earlier));
            }
            if (isNew) {
                count++;
            }
        }
        return count;
    }

    public float leftShare(int game) throws IndexOutOfBoundsException {
        Game found = gameAt(game);
        return (float) found.restCount / (float) Math.max(1, found.thingCount);
    }

    public double meanLeft(int game, int question) throws IndexOutOfBoundsException, IllegalArgumentException {
        Game found = gameAt(game);
        int index = indexIn(found, question);
        weigher.weighParts(found, found.rows.rest, found.restCount, index);
        return (double) weigher.squares / (double) found.restDivisor();
    }

    public boolean isTrue() {
        for (int game = 0; game < gameCount; game++) {
            Game found = gameAt(game);
            if (!hasTrueRest(found) || !hasTrueDepth(found)) {
                return false;
            }
        }
        return true;
    }

    // ---- what the calls share

    private static boolean isOutside(int number, int least, int most) {
        return number < least || number > most;
    }

    private static boolean areShips(int ships) {
        if (isOutside(ships, 1, 555)) {
            return false;
        }
        int digits = ships;
        for (int ship = 0; ship < MOST_SHIPS && digits > 0; ship++) {
            if (isOutside(digits % 10, 1, MOST_SIDE)) {
                return false;
            }
            digits /= 10;
        }
        return true;
    }

    private static long choose(int many, int taken) {
        long ways = 1;
        for (int i = 0; i < taken; i++) {
            ways = ways * (many - i) / (i + 1);
        }
        return ways;
    }

    private Rows freeRows() {
        return rows[Math.min(gameCount, MOST_GAMES)];
    }

    private int add(Game game) {
        if (gameCount >= MOST_GAMES) {
            throw new IllegalStateException("there are 8 games");
        }
        games[gameCount] = game;
        return gameCount++;
    }

    private Game gameAt(int game) {
        Game found = isOutside(game, 0, gameCount - 1) ? null : games[game];
        if (found == null) {
            throw new IndexOutOfBoundsException("no such game");
        }
        return found;
    }

    private Game gameWith(int game, int thing) {
        Game found = gameAt(game);
        if (isOutside(thing, 0, found.thingCount - 1)) {
            throw new IndexOutOfBoundsException("no such thing");
        }
        return found;
    }

    private Game gridAt(int game) {
        Game found = gameAt(game);
        if (found.cellCount == 0) {
            throw new UnsupportedOperationException("not on a grid");
        }
        return found;
    }

    private static int indexIn(Game game, int question) {
        int index = game.indexOf(question);
        if (index < 0) {
            throw new IllegalArgumentException("no such question");
        }
        return index;
    }

    private static void refuseOtherLetters(char what) {
        if (what != 'w' && what != 's' && what != 'p') {
            throw new IllegalArgumentException("letters are w, s and p");
        }
    }

    private static void refuseMoreTaken(Game game) {
        if (game.takenCount >= MOST_TAKEN) {
            throw new IllegalStateException("30 answers were taken");
        }
    }

    private static void refuseLies(Game game) {
        if (game.mayLie > 0) {
            throw new UnsupportedOperationException("the game may have lies");
        }
    }

    private static void refuseNotLeft(Game game, int thing) {
        if (game.rows.lies[thing] > game.mayLie) {
            throw new UnsupportedOperationException("the thing is not left");
        }
    }

    private static void refuseForCover(Game game, int mostLeft) {
        if (game.restCount > mostLeft || game.questionCount > MOST_COVERS) {
            throw new UnsupportedOperationException("too many things are left, or too many questions");
        }
    }

    private void loadTree(Game game, int mostLeft) {
        refuseLies(game);
        if (game.restCount > mostLeft) {
            throw new UnsupportedOperationException("too many things are left");
        }
        if (!tree.load(game)) {
            throw new NoSuchElementException("things cannot be told apart");
        }
    }

    private int fewestCovers() {
        int fewest = cover.fewest();
        if (fewest < 0) {
            throw new NoSuchElementException("3 questions are not enough");
        }
        return fewest;
    }

    private boolean hasTrueRest(Game game) {
        if (game.restCount < 1 || game.questionCount < 1) {
            return false;
        }
        for (int thing = 0; thing < game.thingCount; thing++) {
            if (game.rows.lies[thing] != game.liesAnew(thing)) {
                return false;
            }
        }
        weigher.weighParts(game, game.rows.rest, game.restCount, 0);
        return weigher.sumOfParts() == game.restCount;
    }

    private boolean hasTrueDepth(Game game) {
        if (game.mayLie > 0 || game.restCount > MOST_CHECKED_BY_TREE || !tree.load(game)) {
            return true;
        }
        int most = 0;
        for (int i = 0; i < game.restCount; i++) {
            most = Math.max(most, weigher.questionsToFind(game, game.rows.rest[i], 'w'));
        }
        int depth = tree.leastDepth();
        return depth <= most && depth >= tree.leastByAnswers();
    }

    /** The long rows of one game, made once, so that many games made anew need no new ones. */
    private static final class Rows {
        final int[] tellings = new int[MOST_THINGS];
        final long[] signs = new long[MOST_THINGS];
        final int[] lies = new int[MOST_THINGS];
        final int[] rest = new int[MOST_THINGS];
        final int[] questions = new int[MOST_QUESTIONS];
        final int[] takenIndexes = new int[MOST_TAKEN];
        final int[] takenAnswers = new int[MOST_TAKEN];
        final int[] beside = new int[MOST_CELLS];
        final int[] shipPlaces = new int[MOST_SHIPS * MOST_SHIP_PLACES];
        final int[] distances = new int[MOST_VERTICES * MOST_VERTICES];

        void fillBeside(int width, int height, boolean isRing) {
            for (int cell = 0; cell < width * height; cell++) {
                int cells = 0;
                for (int step = 0; step < 9; step++) {
                    cells |= cellAt(cell % width + step % 3 - 1, cell / width + step / 3 - 1, width, height, isRing);
                }
                beside[cell] = cells & ~(1 << cell);
            }
        }

        private static int cellAt(int x, int y, int width, int height, boolean isRing) {
            int column = isRing ? Math.floorMod(x, width) : x;
            int row = isRing ? Math.floorMod(y, height) : y;
            if (isOutside(column, 0, width - 1) || isOutside(row, 0, height - 1)) {
                return 0;
            }
            return 1 << row * width + column;
        }
    }

    /** Things and questions of one game, the answers taken, and the things that these leave. */
    private abstract static class Game {
        final Rows rows;
        int cellCount = 0;
        int thingCount = 0;
        int questionCount = 0;
        int restCount = 0;
        int takenCount = 0;
        int mayLie = 0;

        Game(Rows rows) {
            this.rows = rows;
        }

        /** Questions stand here by their index, as finding them by their number would be slow. */
        abstract int answerOf(int thing, int index);

        /** All answers are below this number. */
        abstract int answerBound();

        /** The answer that the question itself alone gives, where questions are things, or -1. */
        int answerOfItself() {
            return -1;
        }

        /** Whether no question ahead of this one is weighed the same for certain, as long as all things are left. */
        boolean isFirstOfItsSort(int index) {
            return true;
        }

        final void addThing(int telling, long sign) {
            if (thingCount < MOST_THINGS) {
                rows.tellings[thingCount] = telling;
                rows.signs[thingCount] = sign;
                thingCount++;
            }
        }

        final void addQuestion(int question) {
            if (questionCount < MOST_QUESTIONS) {
                rows.questions[questionCount] = question;
                questionCount++;
            }
        }

        final void addCells(int cells) {
            cellCount = cells;
            for (int cell = 0; cell < cells; cell++) {
                addQuestion(cell);
            }
        }

        final void begin() {
            Arrays.fill(rows.lies, 0, thingCount, 0);
            gatherRest();
        }

        final int indexOf(int question) {
            int from = 0;
            int to = questionCount;
            for (int step = 0; step < MOST_QUESTIONS && from < to; step++) {
                int middle = (from + to) / 2;
                if (rows.questions[middle] < question) {
                    from = middle + 1;
                } else {
                    to = middle;
                }
            }
            return from < questionCount && rows.questions[from] == question ? from : -1;
        }

        final boolean leavesAny(int index, int answer) {
            for (int i = 0; i < restCount; i++) {
                int thing = rows.rest[i];
                if (rows.lies[thing] < mayLie || answerOf(thing, index) == answer) {
                    return true;
                }
            }
            return false;
        }

        final void takeAnswer(int index, int answer) {
            if (takenCount < MOST_TAKEN) {
                rows.takenIndexes[takenCount] = index;
                rows.takenAnswers[takenCount] = answer;
                takenCount++;
                countLies(index, answer, 1);
            }
        }

        final void takeBack() {
            if (takenCount > 0) {
                takenCount--;
                countLies(rows.takenIndexes[takenCount], rows.takenAnswers[takenCount], -1);
            }
        }

        private void countLies(int index, int answer, int change) {
            for (int thing = 0; thing < thingCount; thing++) {
                if (answerOf(thing, index) != answer) {
                    rows.lies[thing] += change;
                }
            }
            gatherRest();
        }

        private void gatherRest() {
            restCount = 0;
            for (int thing = 0; thing < thingCount; thing++) {
                if (rows.lies[thing] <= mayLie) {
                    rows.rest[restCount] = thing;
                    restCount++;
                }
            }
        }

        /** As answers that leave nothing are refused, this is how many things are left. */
        final int restDivisor() {
            return Math.max(1, restCount);
        }

        final int liesAnew(int thing) {
            int lies = 0;
            for (int i = 0; i < takenCount; i++) {
                if (answerOf(thing, rows.takenIndexes[i]) != rows.takenAnswers[i]) {
                    lies++;
                }
            }
            return lies;
        }

        final boolean leavesSameAs(Game other) {
            if (thingCount != other.thingCount || restCount != other.restCount) {
                return false;
            }
            for (int i = 0; i < restCount; i++) {
                if (rows.rest[i] != other.rows.rest[i]) {
                    return false;
                }
            }
            return true;
        }

        final int allCells() {
            return (1 << cellCount) - 1;
        }

        final int emptyCells(int[] things, int count) {
            int cells = allCells();
            for (int i = 0; i < count; i++) {
                cells &= ~rows.tellings[things[i]];
            }
            return cells;
        }
    }

    private static final class Codes extends Game {
        private static final int COUNTS_FROM = MOST_PLACES * MOST_COLOURS;
        private static final long PLACES = (1L << COUNTS_FROM) - 1;

        private final int places;
        private final int colours;

        Codes(Rows rows, int places, int colours, boolean hasRepeats) {
            super(rows);
            this.places = places;
            this.colours = colours;
            int all = 1;
            for (int place = 0; place < places; place++) {
                all *= colours;
            }
            for (int code = 0; code < all; code++) {
                long sign = signOf(code);
                if (hasRepeats || !hasColourTwice(sign)) {
                    addThing(code, sign);
                    addQuestion(code);
                }
            }
            begin();
        }

        /**
         * Two codes' signs have as many bits in common as the codes have places, below, and colours, above: a bit
         * stands for a colour at a place, and for a colour being there once, twice, and so on.
         */
        private long signOf(int code) {
            long sign = 0;
            int digits = code;
            for (int place = 0; place < places; place++) {
                int colour = digits % colours;
                digits /= colours;
                int count = COUNTS_FROM + colour * MOST_PLACES;
                sign |= 1L << place * MOST_COLOURS + colour;
                sign += (sign >>> count & 15) + 1 << count;
            }
            return sign;
        }

        private static boolean hasColourTwice(long sign) {
            for (int colour = 0; colour < MOST_COLOURS; colour++) {
                if ((sign >>> COUNTS_FROM + colour * MOST_PLACES & 2) != 0) {
                    return true;
                }
            }
            return false;
        }

        int answerOf(int thing, int index) {
            long common = rows.signs[thing] & rows.signs[index];
            return 9 * Long.bitCount(common & PLACES) + Long.bitCount(common >>> COUNTS_FROM);
        }

        int answerBound() {
            return 10 * places + 1;
        }

        int answerOfItself() {
            return 10 * places;
        }

        /**
         * Colours and places can change among themselves without changing the set of all codes, so only the lowest
         * code of each sort counts: its colours come in rising order from 0, none more often than one ahead of it.
         */
        boolean isFirstOfItsSort(int index) {
            int digits = rows.questions[index];
            int colour = digits % colours;
            int run = 0;
            int runBehind = 0;
            for (int place = 0; place < places; place++) {
                int next = digits % colours;
                digits /= colours;
                if (next == colour) {
                    run++;
                } else if (next == colour - 1 && run >= runBehind) {
                    colour = next;
                    runBehind = run;
                    run = 1;
                } else {
                    return false;
                }
            }
            return colour == 0 && run >= runBehind;
        }
    }

    private static final class Numbers extends Game {
        Numbers(Rows rows, int many) {
            super(rows);
            for (int number = 0; number < many; number++) {
                addThing(number, 0);
            }
            for (int bound = 1; bound < many; bound++) {
                addQuestion(bound);
            }
            for (int divisor = 2; divisor <= 9; divisor++) {
                addQuestion(REMAINDERS_FROM + divisor);
            }
            begin();
        }

        int answerOf(int thing, int index) {
            int question = rows.questions[index];
            if (question > REMAINDERS_FROM) {
                return thing % (question - REMAINDERS_FROM);
            }
            return thing >= question ? 1 : 0;
        }

        int answerBound() {
            return 9;
        }
    }

    private static final class Coins extends Game {
        Coins(Rows rows, int coins, boolean mayBeAlike) {
            super(rows);
            if (mayBeAlike) {
                addThing(-1, 0);
            }
            for (int telling = 0; telling < 2 * coins; telling++) {
                addThing(telling, 0);
            }
            for (int question = 1; question < POWERS_OF_THREE[coins]; question++) {
                if (isEven(question)) {
                    addQuestion(question);
                }
            }
            begin();
        }

        private static boolean isEven(int question) {
            int lefts = 0;
            int rights = 0;
            for (int coin = 0; coin < MOST_COINS; coin++) {
                int side = sideOf(question, coin);
                lefts += side & 1;
                rights += side >> 1;
            }
            return lefts == rights;
        }

        private static int sideOf(int question, int coin) {
            return question / POWERS_OF_THREE[coin] % 3;
        }

        int answerOf(int thing, int index) {
            int telling = rows.tellings[thing];
            int side = telling < 0 ? 0 : sideOf(rows.questions[index], telling >> 1);
            return side == 0 || (telling & 1) == 0 ? side : 3 - side;
        }

        int answerBound() {
            return 3;
        }
    }

    private static final class Fleets extends Game {
        private final int width;
        private final int height;
        private final boolean mayTouch;
        private final int shipCount;
        private final int[] sizes = new int[MOST_SHIPS];
        private final int[] placeCounts = new int[MOST_SHIPS];
        boolean isTooMany = false;

        Fleets(Rows rows, int width, int height, int ships, boolean mayTouch) {
            super(rows);
            this.width = width;
            this.height = height;
            this.mayTouch = mayTouch;
            shipCount = ships < 10 ? 1 : ships < 100 ? 2 : 3;
            int digits = ships;
            for (int ship = shipCount - 1; ship >= 0; ship--) {
                sizes[ship] = digits % 10;
                digits /= 10;
                findPlaces(ship);
            }
            rows.fillBeside(width, height, false);
            lay(0, -1, 0, 0, 0);
            addCells(width * height);
            begin();
        }

        private void findPlaces(int ship) {
            int size = sizes[ship];
            for (int cell = 0; cell < width * height; cell++) {
                if (cell % width + size <= width) {
                    addPlace(ship, cell, 1);
                }
                if (size > 1 && cell / width + size <= height) {
                    addPlace(ship, cell, width);
                }
            }
        }

        private void addPlace(int ship, int cell, int step) {
            if (placeCounts[ship] >= MOST_SHIP_PLACES) {
                return;
            }
            int cells = 0;
            for (int i = 0; i < sizes[ship]; i++) {
                cells |= 1 << cell + i * step;
            }
            rows.shipPlaces[ship * MOST_SHIP_PLACES + placeCounts[ship]] = cells;
            placeCounts[ship]++;
        }

        /** The sign keeps the cells of the first two ships apart, so that the third one's are those that remain. */
        private void lay(int ship, int placeAhead, int cells, int barred, long sign) {
            if (ship >= shipCount) {
                isTooMany = thingCount >= MOST_THINGS;
                addThing(cells, sign);
                return;
            }
            boolean isLikeAhead = ship > 0 && sizes[ship] == sizes[ship - 1];
            for (int place = isLikeAhead ? placeAhead + 1 : 0; place < placeCounts[ship] && !isTooMany; place++) {
                layAt(ship, place, cells, barred, sign);
            }
        }

        private void layAt(int ship, int place, int cells, int barred, long sign) {
            int own = rows.shipPlaces[ship * MOST_SHIP_PLACES + place];
            if ((own & barred) == 0) {
                long ownSign = ship < 2 ? (long) own << ship * MOST_CELLS : 0;
                lay(ship + 1, place, cells | own, barred | barredBy(own), sign | ownSign);
            }
        }

        private int barredBy(int own) {
            int barred = own;
            for (int cell = 0; cell < width * height && !mayTouch; cell++) {
                if ((own >> cell & 1) != 0) {
                    barred |= rows.beside[cell];
                }
            }
            return barred;
        }

        int answerOf(int thing, int index) {
            if ((rows.tellings[thing] >> index & 1) == 0) {
                return 0;
            }
            long sign = rows.signs[thing] >> index;
            if ((sign & 1) != 0) {
                return sizes[0];
            }
            return (sign >> MOST_CELLS & 1) != 0 ? sizes[1] : sizes[2];
        }

        int answerBound() {
            return MOST_SIDE + 1;
        }
    }

    private static final class Mines extends Game {
        Mines(Rows rows, int width, int height, int mines, boolean isRing) {
            super(rows);
            int set = (1 << mines) - 1;
            long sets = choose(width * height, mines);
            for (int i = 0; i < sets; i++) {
                addThing(set, 0);
                set = nextSet(set);
            }
            rows.fillBeside(width, height, isRing);
            addCells(width * height);
            begin();
        }

        /** The next number with as many bits: the lowest run of bits sends its highest one up, the others down. */
        private static int nextSet(int set) {
            int lowest = set & -set;
            if (lowest == 0) {
                return 0;
            }
            int carried = set + lowest;
            return carried | (set ^ carried) / lowest >> 2;
        }

        int answerOf(int thing, int index) {
            int set = rows.tellings[thing];
            return (set >> index & 1) != 0 ? MINE : Integer.bitCount(set & rows.beside[index]);
        }

        int answerBound() {
            return MINE + 1;
        }
    }

    private static final class Distances extends Game {
        Distances(Rows rows, int[] neighbours, int vertices) {
            super(rows);
            for (int vertex = 0; vertex < vertices; vertex++) {
                addThing(vertex, 0);
                addQuestion(vertex);
                measureFrom(vertex, neighbours);
            }
            begin();
        }

        private void measureFrom(int start, int[] neighbours) {
            Arrays.fill(rows.distances, start * MOST_VERTICES, (start + 1) * MOST_VERTICES, NO_WAY);
            int reached = 0;
            int newest = 1 << start;
            for (int distance = 0; distance < MOST_VERTICES && newest != 0; distance++) {
                reached |= newest;
                int next = 0;
                for (int vertex = 0; vertex < MOST_VERTICES; vertex++) {
                    if ((newest >> vertex & 1) != 0) {
                        rows.distances[start * MOST_VERTICES + vertex] = distance;
                        next |= neighbours[vertex];
                    }
                }
                newest = next & ~reached;
            }
        }

        int answerOf(int thing, int index) {
            return rows.distances[index * MOST_VERTICES + thing];
        }

        int answerBound() {
            return NO_WAY + 1;
        }
    }

    /** Weighs questions by the parts of some things, and narrows these down without touching the game. */
    private static final class Weigher {
        private final int[] sizes = new int[MOST_ANSWERS];
        private final int[] pool = new int[MOST_THINGS];
        private int answerBound = 0;
        int worst = 0;
        int squares = 0;
        int parts = 0;

        void weighParts(Game game, int[] things, int count, int index) {
            answerBound = Math.min(game.answerBound(), MOST_ANSWERS);
            Arrays.fill(sizes, 0, answerBound, 0);
            worst = 0;
            squares = 0;
            parts = 0;
            for (int i = 0; i < count; i++) {
                int answer = game.answerOf(things[i], index);
                if (isOutside(answer, 0, answerBound - 1)) {
                    continue;
                }
                int size = sizes[answer] + 1;
                sizes[answer] = size;
                squares += 2 * size - 1;
                if (size == 1) {
                    parts++;
                }
                if (size > worst) {
                    worst = size;
                }
            }
        }

        int greatestAnswer() {
            int greatest = 0;
            for (int answer = 1; answer < answerBound; answer++) {
                if (sizes[answer] > sizes[greatest]) {
                    greatest = answer;
                }
            }
            return greatest;
        }

        int sumOfParts() {
            int sum = 0;
            for (int answer = 0; answer < answerBound; answer++) {
                sum += sizes[answer];
            }
            return sum;
        }

        private int burden(char what) {
            return what == 'w' ? worst : what == 's' ? squares : -parts;
        }

        int bestIndex(Game game, int[] things, int count, char what) {
            int itself = game.answerOfItself();
            int best = 0;
            int least = ABOVE_ALL_BURDENS;
            boolean isBestThing = false;
            for (int index = 0; index < game.questionCount; index++) {
                if (count == game.thingCount && !game.isFirstOfItsSort(index)) {
                    continue;
                }
                weighParts(game, things, count, index);
                int burden = burden(what);
                boolean isThing = itself >= 0 && sizes[itself] > 0;
                if (burden < least || burden == least && isThing && !isBestThing) {
                    best = index;
                    least = burden;
                    isBestThing = isThing;
                }
            }
            return best;
        }

        /** How many questions, or -1 if the best one leaves all. */
        int questionsToFind(Game game, int thing, char what) {
            int count = fillPool(game);
            for (int asked = 0; asked < MOST_THINGS; asked++) {
                if (count <= 1) {
                    return asked;
                }
                int kept = keep(game, count, thing, bestIndex(game, pool, count, what));
                if (kept == count) {
                    return -1;
                }
                count = kept;
            }
            return -1;
        }

        private int fillPool(Game game) {
            System.arraycopy(game.rows.rest, 0, pool, 0, game.restCount);
            return game.restCount;
        }

        private int keep(Game game, int count, int thing, int index) {
            int answer = game.answerOf(thing, index);
            int kept = 0;
            for (int i = 0; i < count; i++) {
                if (game.answerOf(pool[i], index) == answer) {
                    pool[kept] = pool[i];
                    kept++;
                }
            }
            return kept;
        }

        boolean opensAll(Game game, int thing, int cell) {
            int count = fillPool(game);
            int opened = 0;
            int open = 1 << cell;
            for (int round = 0; round < MOST_CELLS && open != opened; round++) {
                for (int next = 0; next < game.cellCount; next++) {
                    if (((open & ~opened) >> next & 1) != 0) {
                        count = keep(game, count, thing, next);
                    }
                }
                opened = open;
                open = game.emptyCells(pool, count);
            }
            return opened == (game.allCells() & ~game.rows.tellings[thing]);
        }
    }

    /** Proves the least trees over the few things that are left, a set of which is told by its bits. */
    private static final class Tree {
        private final int[] parts = new int[MOST_QUESTIONS * MOST_FOR_DEPTH];
        private final int[] partCounts = new int[MOST_QUESTIONS];
        private final long[] keys = new long[MOST_QUESTIONS];
        private final int[] homes = new int[KEY_HOMES];
        private final int[] labels = new int[MOST_ANSWERS];
        private final int[] told = new int[MOST_FOR_DEPTH];
        private final int[] leastBySize = new int[MOST_FOR_DEPTH + 1];
        private final int[] least = new int[1 << MOST_FOR_DEPTH];
        private final int[] exact = new int[1 << MOST_FOR_DEPTH];
        private int thingCount = 0;
        private int splitCount = 0;
        private int mostParts = 0;

        /** Takes the ways in which questions split the things that are left; answers whether all are told apart. */
        boolean load(Game game) {
            thingCount = Math.min(game.restCount, MOST_FOR_DEPTH);
            splitCount = 0;
            mostParts = 0;
            Arrays.fill(homes, 0);
            Arrays.fill(told, 0);
            Arrays.fill(least, 0, 1 << thingCount, 0);
            Arrays.fill(exact, 0, 1 << thingCount, 0);
            for (int index = 0; index < game.questionCount; index++) {
                addSplit(game, index);
            }
            for (int size = 0; size <= thingCount; size++) {
                leastBySize[size] = leastFor(size);
            }
            int all = (1 << thingCount) - 1;
            for (int i = 0; i < thingCount; i++) {
                if ((told[i] | 1 << i) != all) {
                    return false;
                }
            }
            return true;
        }

        /** Questions that split things in the same way are one, as the search asks each again and again. */
        private void addSplit(Game game, int index) {
            Arrays.fill(labels, -1);
            int from = splitCount * MOST_FOR_DEPTH;
            int count = 0;
            long key = 0;
            for (int i = 0; i < thingCount; i++) {
                int answer = game.answerOf(game.rows.rest[i], index);
                if (isOutside(answer, 0, MOST_ANSWERS - 1)) {
                    continue;
                }
                if (labels[answer] < 0) {
                    labels[answer] = count;
                    parts[from + count] = 0;
                    count++;
                }
                parts[from + labels[answer]] |= 1 << i;
                key |= (long) labels[answer] << 4 * i;
            }
            if (count > 1 && isNewKey(key)) {
                partCounts[splitCount] = count;
                splitCount++;
                mostParts = Math.max(mostParts, count);
                tellApart(from, count);
            }
        }

        private boolean isNewKey(long key) {
            int home = (int) (key * 0x9E3779B97F4A7C15L >>> 52);
            for (int step = 0; step < KEY_HOMES; step++) {
                int place = home + step & KEY_HOMES - 1;
                if (homes[place] == 0) {
                    homes[place] = splitCount + 1;
                    keys[splitCount] = key;
                    return true;
                }
                if (keys[homes[place] - 1] == key) {
                    return false;
                }
            }
            return false;
        }

        private void tellApart(int from, int count) {
            int all = (1 << thingCount) - 1;
            for (int part = from; part < from + count; part++) {
                for (int i = 0; i < thingCount; i++) {
                    if ((parts[part] >> i & 1) != 0) {
                        told[i] |= all & ~parts[part];
                    }
                }
            }
        }

        private int leastFor(int size) {
            int questions = 0;
            for (int reach = 1; reach < size && questions < MOST_FOR_DEPTH; reach *= mostParts) {
                questions++;
            }
            return questions;
        }

        int leastByAnswers() {
            return leastBySize[thingCount];
        }

        int leastDepth() {
            return depthOf((1 << thingCount) - 1, thingCount - 1, 0);
        }

        int leastTotal() {
            return totalOf((1 << thingCount) - 1, 0);
        }

        /** The depth of a set, if it is at most the limit; else a number above the limit that it is not below. */
        private int depthOf(int set, int limit, int level) {
            int size = Integer.bitCount(set);
            if (size <= 2 || level > MOST_FOR_DEPTH) {
                return size - 1;
            }
            if (exact[set] > 0 || least[set] > limit) {
                return Math.max(exact[set], least[set]);
            }
            int first = evenestSplit(set);
            int floor = Math.max(least[set], floorBy(size, worstPart(first, set)));
            // No tree need be higher: at worst each question takes one thing off.
            int best = Math.min(limit + 1, size - 1);
            for (int i = -1; i < splitCount && best > floor; i++) {
                int split = i < 0 ? first : i;
                best = Math.min(best, 1 + deepestPart(split, set, best - 2, level + 1));
            }
            least[set] = Math.max(best, floor);
            if (best <= limit || best == size - 1) {
                exact[set] = best;
            }
            return least[set];
        }

        /**
         * Where the evenest split leaves so many at worst, any split leaves a part of that size; and as it takes no
         * more than the rest off, any split of a part takes no more off than that.
         */
        private int floorBy(int size, int worst) {
            int rest = size - worst;
            int questions = rest < 1 ? 0 : (size - 1 + rest - 1) / rest;
            return Math.max(questions, 1 + leastBySize[worst]);
        }

        private int deepestPart(int split, int set, int limit, int level) {
            int from = split * MOST_FOR_DEPTH;
            int to = from + partCounts[split];
            for (int part = from; part < to; part++) {
                int own = parts[part] & set;
                if (own == set || leastBySize[Integer.bitCount(own)] > limit) {
                    return limit + 1;
                }
            }
            int deepest = 0;
            for (int part = from; part < to && deepest <= limit; part++) {
                int own = parts[part] & set;
                if (own != 0) {
                    deepest = Math.max(deepest, depthOf(own, limit, level));
                }
            }
            return deepest;
        }

        private int worstPart(int split, int set) {
            int worst = 0;
            int from = split * MOST_FOR_DEPTH;
            for (int part = from; part < from + partCounts[split]; part++) {
                worst = Math.max(worst, Integer.bitCount(parts[part] & set));
            }
            return worst;
        }

        private int evenestSplit(int set) {
            int evenest = 0;
            int least = MOST_FOR_DEPTH + 1;
            for (int split = 0; split < splitCount && least > 1; split++) {
                int worst = worstPart(split, set);
                if (worst < least) {
                    evenest = split;
                    least = worst;
                }
            }
            return evenest;
        }

        private int totalOf(int set, int level) {
            int size = Integer.bitCount(set);
            if (size <= 2 || level > MOST_FOR_DEPTH) {
                return size < 2 ? 0 : 2;
            }
            if (least[set] > 0) {
                return least[set];
            }
            // No tree need have more: at worst each question takes one thing off.
            int best = size * (size + 1) / 2 - 1;
            for (int split = 0; split < splitCount && best > size; split++) {
                best = Math.min(best, totalBy(split, set, best, level + 1));
            }
            least[set] = best;
            return best;
        }

        /** The total with this split asked first, or the limit if it is not below that. */
        private int totalBy(int split, int set, int limit, int level) {
            int from = split * MOST_FOR_DEPTH;
            int to = from + partCounts[split];
            int total = Integer.bitCount(set);
            for (int part = from; part < to; part++) {
                int own = parts[part] & set;
                int size = Integer.bitCount(own);
                total += size > 1 ? size : 0;
                if (own == set || total >= limit) {
                    return limit;
                }
            }
            for (int part = from; part < to && total < limit; part++) {
                int own = parts[part] & set;
                int size = Integer.bitCount(own);
                total += size > 2 ? totalOf(own, level) - size : 0;
            }
            return Math.min(total, limit);
        }
    }

    /** Finds the fewest questions that do, together, all that is to be done, up to 128 deeds told by bits. */
    private static final class Cover {
        private final long[] lows = new long[MOST_COVERS];
        private final long[] highs = new long[MOST_COVERS];
        private final int[] answers = new int[MOST_FOR_PROOF];
        private int count = 0;
        private long allLow = 0;
        private long allHigh = 0;

        /** The deeds are to tell each pair of things apart. */
        void loadPairs(Game game) {
            empty(game.restCount * (game.restCount - 1) / 2);
            for (int index = 0; index < game.questionCount; index++) {
                askRest(game, index);
                int deed = 0;
                for (int i = 0; i < game.restCount; i++) {
                    for (int j = 0; j < i; j++) {
                        if (answers[i] != answers[j]) {
                            add(deed);
                        }
                        deed++;
                    }
                }
                count++;
            }
        }

        /** The deeds are to rule out each thing but one. */
        void loadOthers(Game game, int thing) {
            empty(game.restCount - 1);
            for (int index = 0; index < game.questionCount; index++) {
                askRest(game, index);
                int own = game.answerOf(thing, index);
                int deed = 0;
                for (int i = 0; i < game.restCount; i++) {
                    if (answers[i] != own) {
                        add(deed);
                    }
                    if (game.rows.rest[i] != thing) {
                        deed++;
                    }
                }
                count++;
            }
        }

        private void empty(int deeds) {
            count = 0;
            Arrays.fill(lows, 0);
            Arrays.fill(highs, 0);
            allLow = deeds < 64 ? (1L << deeds) - 1 : -1;
            allHigh = deeds <= 64 ? 0 : (1L << deeds - 64) - 1;
        }

        private void askRest(Game game, int index) {
            for (int i = 0; i < game.restCount; i++) {
                answers[i] = game.answerOf(game.rows.rest[i], index);
            }
        }

        private void add(int deed) {
            if (deed < 64) {
                lows[count] |= 1L << deed;
            } else {
                highs[count] |= 1L << deed - 64;
            }
        }

        /** How many questions, or -1 if too many were needed. */
        int fewest() {
            for (int many = 0; many <= MOST_AT_ONCE; many++) {
                if (canCover(allLow, allHigh, many)) {
                    return many;
                }
            }
            return -1;
        }

        /** One of the questions does the lowest deed that is lacking, so no others need be tried next. */
        private boolean canCover(long lackingLow, long lackingHigh, int many) {
            if ((lackingLow | lackingHigh) == 0) {
                return true;
            }
            if (many <= 0) {
                return false;
            }
            long low = lackingLow & -lackingLow;
            long high = low != 0 ? 0 : lackingHigh & -lackingHigh;
            for (int i = 0; i < count; i++) {
                boolean doesNext = (lows[i] & low | highs[i] & high) != 0;
                if (doesNext && canCoverWith(i, lackingLow, lackingHigh, many - 1)) {
                    return true;
                }
            }
            return false;
        }

        private boolean canCoverWith(int index, long lackingLow, long lackingHigh, int many) {
            return canCover(lackingLow & ~lows[index], lackingHigh & ~highs[index], many);
        }
    }
}
