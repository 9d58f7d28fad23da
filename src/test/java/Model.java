import java.math.BigInteger;
import java.util.ArrayList;
import java.util.Arrays;
import java.util.HashMap;
import java.util.HashSet;
import java.util.List;
import java.util.Map;
import java.util.NoSuchElementException;
import java.util.Set;
import java.util.TreeMap;
import java.util.TreeSet;

/** The document read once more, as literally and slowly as can be, to hold Guesswright's answers against. */
final class Model {
    private static final Map<String, int[][]> CODE_TABLES = new HashMap<>();

    private final List<Play> plays = new ArrayList<>();
    private boolean[][] isEdge = new boolean[1][1];

    /** One game; answers are kept by thing and question, in the order of the lists. */
    private static final class Play {
        String kind = "";
        int cells = 0;
        int lies = 0;
        List<Integer> told = new ArrayList<>();
        List<Integer> questions = new ArrayList<>();
        int[][] answers = new int[0][0];
        List<int[]> taken = new ArrayList<>();

        int liesOf(int thing) {
            int count = 0;
            for (int[] one : taken) {
                count += answers[thing][one[0]] == one[1] ? 0 : 1;
            }
            return count;
        }

        List<Integer> left() {
            List<Integer> left = new ArrayList<>();
            for (int thing = 0; thing < told.size(); thing++) {
                if (liesOf(thing) <= lies) {
                    left.add(thing);
                }
            }
            return left;
        }

        TreeMap<Integer, List<Integer>> parts(List<Integer> things, int index) {
            TreeMap<Integer, List<Integer>> parts = new TreeMap<>();
            for (int thing : things) {
                parts.computeIfAbsent(answers[thing][index], none -> new ArrayList<>()).add(thing);
            }
            return parts;
        }

        long weigh(List<Integer> things, int index, char what) {
            long worst = 0;
            long squares = 0;
            TreeMap<Integer, List<Integer>> parts = parts(things, index);
            for (List<Integer> part : parts.values()) {
                worst = Math.max(worst, part.size());
                squares += (long) part.size() * part.size();
            }
            return what == 'w' ? worst : what == 's' ? squares : parts.size();
        }

        int best(List<Integer> things, char what) {
            int best = -1;
            long bestWeight = 0;
            for (int pass = 0; pass < 2; pass++) {
                for (int index = 0; index < questions.size(); index++) {
                    boolean isThing = kind.equals("codes") && things.contains(told.indexOf(questions.get(index)));
                    if (isThing != (pass == 0)) {
                        continue;
                    }
                    long weight = weigh(things, index, what) * (what == 'p' ? -1 : 1);
                    if (best < 0 || weight < bestWeight) {
                        best = index;
                        bestWeight = weight;
                    }
                }
            }
            return best;
        }
    }

    private static void demand(boolean isSo, RuntimeException otherwise) {
        if (!isSo) {
            throw otherwise;
        }
    }

    private static RuntimeException argument() {
        return new IllegalArgumentException();
    }

    private static RuntimeException index() {
        return new IndexOutOfBoundsException();
    }

    private static RuntimeException unsupported() {
        return new UnsupportedOperationException();
    }

    int games() {
        return plays.size();
    }

    /** Empty, if there is no such game. */
    List<Integer> questionsOf(int game) {
        return game >= 0 && game < plays.size() ? plays.get(game).questions : List.of();
    }

    private int add(Play play) {
        demand(plays.size() < 8, new IllegalStateException());
        plays.add(play);
        return plays.size() - 1;
    }

    // ---- games

    int codes(int places, int colours, boolean hasRepeats) {
        demand(places >= 1 && places <= 4 && colours >= 1 && colours <= 6, argument());
        Play play = new Play();
        play.kind = "codes";
        List<int[]> codes = new ArrayList<>();
        int all = (int) Math.pow(colours, places);
        for (int code = 0; code < all; code++) {
            int[] digits = new int[places];
            int rest = code;
            Set<Integer> unlike = new HashSet<>();
            for (int place = places - 1; place >= 0; place--) {
                digits[place] = rest % colours;
                unlike.add(digits[place]);
                rest /= colours;
            }
            if (hasRepeats || unlike.size() == places) {
                codes.add(digits);
                play.told.add(code);
            }
        }
        demand(!codes.isEmpty(), argument());
        play.questions = play.told;
        play.answers = CODE_TABLES.computeIfAbsent(places + " " + colours + " " + hasRepeats, key -> pegs(codes));
        return add(play);
    }

    private static int[][] pegs(List<int[]> codes) {
        int[][] answers = new int[codes.size()][codes.size()];
        for (int question = 0; question < codes.size(); question++) {
            List<int[]> orders = new ArrayList<>();
            order(codes.get(question), 0, orders);
            for (int thing = 0; thing < codes.size(); thing++) {
                int right = alike(codes.get(thing), codes.get(question));
                int most = 0;
                for (int[] other : orders) {
                    most = Math.max(most, alike(codes.get(thing), other));
                }
                answers[thing][question] = 10 * right + most - right;
            }
        }
        return answers;
    }

    private static void order(int[] code, int from, List<int[]> orders) {
        if (from == code.length) {
            orders.add(code.clone());
            return;
        }
        for (int i = from; i < code.length; i++) {
            int[] other = code.clone();
            other[from] = code[i];
            other[i] = code[from];
            order(other, from + 1, orders);
        }
    }

    private static int alike(int[] one, int[] other) {
        int count = 0;
        for (int i = 0; i < one.length; i++) {
            count += one[i] == other[i] ? 1 : 0;
        }
        return count;
    }

    int numbers(int many) {
        demand(many >= 1 && many <= 64, argument());
        Play play = new Play();
        play.kind = "numbers";
        for (int x = 1; x < many; x++) {
            play.questions.add(x);
        }
        for (int d = 2; d <= 9; d++) {
            play.questions.add(100 + d);
        }
        for (int thing = 0; thing < many; thing++) {
            play.told.add(thing);
        }
        play.answers = new int[many][play.questions.size()];
        for (int thing = 0; thing < many; thing++) {
            for (int i = 0; i < play.questions.size(); i++) {
                int question = play.questions.get(i);
                play.answers[thing][i] = question > 100 ? thing % (question - 100) : thing >= question ? 1 : 0;
            }
        }
        return add(play);
    }

    int coins(int coins, boolean mayBeAlike) {
        demand(coins >= 2 && coins <= 7, argument());
        Play play = new Play();
        play.kind = "coins";
        if (mayBeAlike) {
            play.told.add(-1);
        }
        for (int coin = 0; coin < coins; coin++) {
            play.told.add(2 * coin);
            play.told.add(2 * coin + 1);
        }
        List<String> balances = new ArrayList<>();
        for (int question = 0; question < Math.pow(3, coins); question++) {
            String digits = new StringBuilder("0000000" + Integer.toString(question, 3)).reverse().substring(0, coins);
            long lefts = digits.chars().filter(digit -> digit == '1').count();
            if (lefts > 0 && lefts == digits.chars().filter(digit -> digit == '2').count()) {
                play.questions.add(question);
                balances.add(digits);
            }
        }
        play.answers = new int[play.told.size()][play.questions.size()];
        for (int thing = 0; thing < play.told.size(); thing++) {
            for (int i = 0; i < balances.size(); i++) {
                int left = 0;
                int right = 0;
                for (int coin = 0; coin < coins; coin++) {
                    int telling = play.told.get(thing);
                    int grams = telling == 2 * coin ? 11 : telling == 2 * coin + 1 ? 9 : 10;
                    left += balances.get(i).charAt(coin) == '1' ? grams : 0;
                    right += balances.get(i).charAt(coin) == '2' ? grams : 0;
                }
                play.answers[thing][i] = left == right ? 0 : left > right ? 1 : 2;
            }
        }
        return add(play);
    }

    int fleets(int width, int height, int ships, boolean mayTouch) {
        demand(width >= 1 && width <= 5 && height >= 1 && height <= 5, argument());
        demand(Integer.toString(ships).matches("[1-5]{1,3}"), argument());
        List<List<TreeSet<Integer>>> ways = new ArrayList<>();
        layShips(width, height, Integer.toString(ships), mayTouch, new ArrayList<>(), new ArrayList<>(), ways);
        demand(!ways.isEmpty() && ways.size() <= 2000, argument());
        Play play = new Play();
        play.kind = "fleets";
        play.cells = width * height;
        play.answers = new int[ways.size()][play.cells];
        for (int thing = 0; thing < ways.size(); thing++) {
            int set = 0;
            for (TreeSet<Integer> ship : ways.get(thing)) {
                for (int cell : ship) {
                    set += 1 << cell;
                    play.answers[thing][cell] = ship.size();
                }
            }
            play.told.add(set);
        }
        for (int cell = 0; cell < play.cells; cell++) {
            play.questions.add(cell);
        }
        return add(play);
    }

    private static void layShips(int width, int height, String sizes, boolean mayTouch, List<TreeSet<Integer>> laid,
            List<Integer> keys, List<List<TreeSet<Integer>>> ways) {
        if (laid.size() == sizes.length()) {
            ways.add(new ArrayList<>(laid));
            return;
        }
        int ship = laid.size();
        int size = sizes.charAt(ship) - '0';
        for (int key = 0; key < 2 * width * height && ways.size() <= 2001; key++) {
            boolean isDown = key % 2 == 1;
            int x = key / 2 % width;
            int y = key / 2 / width;
            boolean isBehind = ship == 0 || sizes.charAt(ship - 1) != sizes.charAt(ship) || key > keys.get(ship - 1);
            if (isDown && size == 1 || !isBehind || (isDown ? y + size > height : x + size > width)) {
                continue;
            }
            TreeSet<Integer> cells = new TreeSet<>();
            for (int i = 0; i < size; i++) {
                cells.add((isDown ? y + i : y) * width + (isDown ? x : x + i));
            }
            boolean isFree = true;
            for (TreeSet<Integer> other : laid) {
                for (int one : cells) {
                    for (int two : other) {
                        isFree &= one != two && (mayTouch || !isBeside(one, two, width, height, false));
                    }
                }
            }
            if (isFree) {
                laid.add(cells);
                keys.add(key);
                layShips(width, height, sizes, mayTouch, laid, keys, ways);
                laid.remove(ship);
                keys.remove(ship);
            }
        }
    }

    private static boolean isBeside(int one, int other, int width, int height, boolean isRing) {
        return one != other && isNear(one % width, other % width, width, isRing)
                && isNear(one / width, other / width, height, isRing);
    }

    private static boolean isNear(int one, int other, int size, boolean isRing) {
        int distance = Math.abs(one - other);
        return distance <= 1 || isRing && distance == size - 1;
    }

    int mines(int width, int height, int mines, boolean isRing) {
        demand(width >= 1 && width <= 5 && height >= 1 && height <= 5, argument());
        demand(mines >= 0 && mines <= width * height, argument());
        Play play = new Play();
        play.kind = "mines";
        play.cells = width * height;
        TreeSet<Integer> sets = new TreeSet<>();
        layMines(play.cells, mines, 0, 0, sets);
        demand(sets.size() <= 2000, argument());
        play.told.addAll(sets);
        play.answers = new int[sets.size()][play.cells];
        for (int thing = 0; thing < sets.size(); thing++) {
            for (int cell = 0; cell < play.cells; cell++) {
                int count = 0;
                for (int other = 0; other < play.cells; other++) {
                    boolean isMine = (play.told.get(thing) & 1 << other) != 0;
                    count += isMine && isBeside(cell, other, width, height, isRing) ? 1 : 0;
                }
                play.answers[thing][cell] = (play.told.get(thing) & 1 << cell) != 0 ? 9 : count;
            }
        }
        for (int cell = 0; cell < play.cells; cell++) {
            play.questions.add(cell);
        }
        return add(play);
    }

    private static void layMines(int cells, int mines, int from, int set, TreeSet<Integer> sets) {
        if (mines == 0) {
            sets.add(set);
            return;
        }
        for (int cell = from; cell + mines <= cells && sets.size() <= 2001; cell++) {
            layMines(cells, mines - 1, cell + 1, set | 1 << cell, sets);
        }
    }

    private int edges() {
        int count = 0;
        for (boolean[] row : isEdge) {
            for (boolean one : row) {
                count += one ? 1 : 0;
            }
        }
        return count / 2;
    }

    int vertices(int vertices) {
        demand(vertices >= 1 && vertices <= 20, argument());
        int before = edges();
        isEdge = new boolean[vertices][vertices];
        return before;
    }

    int edge(int one, int other) {
        demand(one >= 0 && one < isEdge.length && other >= 0 && other < isEdge.length, index());
        demand(one != other, argument());
        isEdge[one][other] = !isEdge[one][other];
        isEdge[other][one] = isEdge[one][other];
        return edges();
    }

    int graph() {
        int size = isEdge.length;
        Play play = new Play();
        play.kind = "graph";
        play.answers = new int[size][size];
        for (int one = 0; one < size; one++) {
            play.told.add(one);
            play.questions.add(one);
            for (int other = 0; other < size; other++) {
                play.answers[one][other] = one == other ? 0 : isEdge[one][other] ? 1 : 99;
            }
        }
        for (int middle = 0; middle < size; middle++) {
            for (int one = 0; one < size; one++) {
                for (int other = 0; other < size; other++) {
                    play.answers[one][other] = Math.min(play.answers[one][other],
                            play.answers[one][middle] + play.answers[middle][other]);
                }
            }
        }
        return add(play);
    }

    int clear() {
        int before = plays.size();
        plays.clear();
        return before;
    }

    private Play play(int game) {
        demand(game >= 0 && game < plays.size(), index());
        return plays.get(game);
    }

    private Play play(int game, int thing) {
        Play play = play(game);
        demand(thing >= 0 && thing < play.told.size(), index());
        return play;
    }

    private static int asked(Play play, int question) {
        demand(play.questions.contains(question), argument());
        return play.questions.indexOf(question);
    }

    int setLies(int game, int lies) {
        Play play = play(game);
        demand(lies >= 0 && lies <= 3, argument());
        demand(play.taken.isEmpty(), unsupported());
        int before = play.lies;
        play.lies = lies;
        return before;
    }

    // ---- things and answers

    int things(int game) {
        return play(game).told.size();
    }

    int left(int game) {
        return play(game).left().size();
    }

    int leftAt(int game, int index) {
        List<Integer> left = play(game).left();
        demand(index >= 0 && index < left.size(), new NoSuchElementException());
        return left.get(index);
    }

    int told(int game, int thing) {
        return play(game, thing).told.get(thing);
    }

    int liesOf(int game, int thing) {
        return play(game, thing).liesOf(thing);
    }

    int questions(int game) {
        return play(game).questions.size();
    }

    int answer(int game, int thing, int question) {
        Play play = play(game, thing);
        return play.answers[thing][asked(play, question)];
    }

    int take(int game, int question, int answer) {
        Play play = play(game);
        play.taken.add(new int[] {asked(play, question), answer});
        int left = play.left().size();
        boolean isFull = play.taken.size() > 30;
        if (left == 0 || isFull) {
            play.taken.remove(play.taken.size() - 1);
        }
        demand(left > 0, unsupported());
        demand(!isFull, new IllegalStateException());
        return left;
    }

    int back(int game) {
        Play play = play(game);
        demand(!play.taken.isEmpty(), new NoSuchElementException());
        play.taken.remove(play.taken.size() - 1);
        return play.left().size();
    }

    int adverse(int game, int question) {
        Play play = play(game);
        int index = asked(play, question);
        demand(play.taken.size() < 30, new IllegalStateException());
        int answer = -1;
        int most = 0;
        for (Map.Entry<Integer, List<Integer>> part : play.parts(play.left(), index).entrySet()) {
            if (part.getValue().size() > most) {
                most = part.getValue().size();
                answer = part.getKey();
            }
        }
        play.taken.add(new int[] {index, answer});
        return answer;
    }

    int draw(int game, int seed) {
        List<Integer> left = play(game).left();
        demand(seed >= 0 && seed <= 99999, argument());
        BigInteger drawn = BigInteger.valueOf(seed).multiply(BigInteger.valueOf(1103515245))
                .add(BigInteger.valueOf(12345)).mod(BigInteger.TWO.pow(31));
        return left.get(drawn.shiftRight(16).intValue() % left.size());
    }

    // ---- questions weighed

    private static void demandLetter(char what) {
        demand("wsp".indexOf(what) >= 0, argument());
    }

    long weigh(int game, int question, char what) {
        Play play = play(game);
        int index = asked(play, question);
        demandLetter(what);
        return play.weigh(play.left(), index, what);
    }

    int part(int game, int question, int answer) {
        Play play = play(game);
        return play.parts(play.left(), asked(play, question)).getOrDefault(answer, List.of()).size();
    }

    int best(int game, char what) {
        Play play = play(game);
        demandLetter(what);
        return play.questions.get(play.best(play.left(), what));
    }

    int find(int game, int thing, char what) {
        Play play = play(game, thing);
        demandLetter(what);
        demand(play.lies == 0 && play.left().contains(thing), unsupported());
        List<Integer> left = play.left();
        int asked = 0;
        while (left.size() > 1) {
            int index = play.best(left, what);
            List<Integer> next = play.parts(left, index).get(play.answers[thing][index]);
            demand(next.size() < left.size(), unsupported());
            left = next;
            asked++;
        }
        return asked;
    }

    // ---- trees, sets, proofs

    private static Set<Set<List<Integer>>> splits(Play play, List<Integer> things) {
        Set<Set<List<Integer>>> splits = new HashSet<>();
        for (int index = 0; index < play.questions.size(); index++) {
            Set<List<Integer>> split = new HashSet<>(play.parts(things, index).values());
            if (split.size() > 1) {
                splits.add(split);
            }
        }
        return splits;
    }

    /** The splits of the things that are left as rows of sets of bits, the first thing that is left the lowest. */
    private static List<int[]> splitRows(Play play, List<Integer> things) {
        List<int[]> rows = new ArrayList<>();
        for (Set<List<Integer>> split : splits(play, things)) {
            int[] row = new int[split.size()];
            int at = 0;
            for (List<Integer> part : split) {
                for (int thing : part) {
                    row[at] |= 1 << things.indexOf(thing);
                }
                at++;
            }
            rows.add(row);
        }
        return rows;
    }

    private static final int NONE = 1_000_000;

    private static int least(int set, boolean isSum, List<int[]> rows, Map<Integer, Integer> known) {
        if (Integer.bitCount(set) <= 1) {
            return 0;
        }
        Integer answer = known.get(set);
        if (answer != null) {
            return answer;
        }
        int best = NONE;
        for (int[] row : rows) {
            int value = isSum ? Integer.bitCount(set) : 0;
            boolean isSplit = true;
            for (int part : row) {
                isSplit &= (part & set) != set;
            }
            for (int i = 0; i < row.length && isSplit && value < best; i++) {
                int below = least(row[i] & set, isSum, rows, known);
                value = isSum ? value + below : Math.max(value, 1 + below);
            }
            if (isSplit) {
                best = Math.min(best, value);
            }
        }
        known.put(set, best);
        return best;
    }

    private int tree(int game, boolean isSum, int most) {
        Play play = play(game);
        List<Integer> left = play.left();
        demand(play.lies == 0 && left.size() <= most, unsupported());
        int least = least((1 << left.size()) - 1, isSum, splitRows(play, left), new HashMap<>());
        demand(least < NONE, new NoSuchElementException());
        return least;
    }

    int depth(int game) {
        return tree(game, false, 14);
    }

    int leastSum(int game) {
        return tree(game, true, 10);
    }

    int atOnce(int game) {
        Play play = play(game);
        List<Integer> left = play.left();
        demand(play.lies == 0 && left.size() <= 12 && play.questions.size() <= 200, unsupported());
        List<List<Integer>> columns = new ArrayList<>();
        Set<Set<List<Integer>>> seen = new HashSet<>();
        for (int index = 0; index < play.questions.size(); index++) {
            if (seen.add(new HashSet<>(play.parts(left, index).values()))) {
                List<Integer> column = new ArrayList<>();
                for (int thing : left) {
                    column.add(play.answers[thing][index]);
                }
                columns.add(column);
            }
        }
        long[] words = new long[left.size()];
        for (int many = 0; many <= 3; many++) {
            if (tellsApart(columns, 0, many, words)) {
                return many;
            }
        }
        throw new NoSuchElementException();
    }

    private static boolean tellsApart(List<List<Integer>> columns, int from, int many, long[] words) {
        if (many == 0) {
            return Arrays.stream(words).distinct().count() == words.length;
        }
        for (int i = from; i < columns.size(); i++) {
            long[] longer = new long[words.length];
            for (int row = 0; row < words.length; row++) {
                longer[row] = words[row] * 1000 + columns.get(i).get(row);
            }
            if (tellsApart(columns, i + 1, many - 1, longer)) {
                return true;
            }
        }
        return false;
    }

    int proof(int game, int thing) {
        Play play = play(game, thing);
        List<Integer> left = play.left();
        demand(play.lies == 0 && left.contains(thing), unsupported());
        demand(left.size() <= 60 && play.questions.size() <= 200, unsupported());
        Set<Long> kept = new HashSet<>();
        for (int index = 0; index < play.questions.size(); index++) {
            long set = 0;
            for (int other : play.parts(left, index).get(play.answers[thing][index])) {
                set |= 1L << left.indexOf(other);
            }
            kept.add(set);
        }
        Set<Long> reached = new HashSet<>(Set.of((1L << left.size()) - 1));
        for (int many = 0; many <= 3; many++) {
            if (reached.contains(1L << left.indexOf(thing))) {
                return many;
            }
            Set<Long> next = new HashSet<>();
            for (long one : reached) {
                for (long other : kept) {
                    next.add(one & other);
                }
            }
            reached = next;
        }
        throw new NoSuchElementException();
    }

    long weight(int game, int questions) {
        Play play = play(game);
        demand(questions >= 0 && questions <= 40, argument());
        long[][] ways = new long[41][41];
        for (int n = 0; n <= 40; n++) {
            ways[n][0] = 1;
            for (int i = 1; i <= n; i++) {
                ways[n][i] = ways[n - 1][i - 1] + ways[n - 1][i];
            }
        }
        long sum = 0;
        for (int thing : play.left()) {
            for (int i = 0; i <= play.lies - play.liesOf(thing); i++) {
                sum += ways[questions][i];
            }
        }
        return sum;
    }

    // ---- grids

    int at(int game, int cell) {
        Play play = play(game);
        demand(play.cells > 0, unsupported());
        demand(cell >= 0 && cell < play.cells, argument());
        int count = 0;
        for (int thing : play.left()) {
            count += (play.told.get(thing) & 1 << cell) != 0 ? 1 : 0;
        }
        return count;
    }

    int sure(int game, boolean haveAll) {
        Play play = play(game);
        demand(play.cells > 0, unsupported());
        int set = 0;
        for (int cell = 0; cell < play.cells; cell++) {
            set += at(game, cell) == (haveAll ? play.left().size() : 0) ? 1 << cell : 0;
        }
        return set;
    }

    boolean isClear(int game, int thing, int cell) {
        Play play = play(game, thing);
        demand(play.kind.equals("mines") && play.lies == 0 && play.left().contains(thing), unsupported());
        demand(cell >= 0 && cell < play.cells && play.answers[thing][cell] != 9, argument());
        Set<Integer> opened = new HashSet<>(Set.of(cell));
        int unopened = play.cells - Integer.bitCount(play.told.get(thing)) - 1;
        boolean isStuck = false;
        while (unopened > 0 && !isStuck) {
            List<Integer> possible = play.left();
            for (int one : opened) {
                possible.removeIf(other -> play.answers[other][one] != play.answers[thing][one]);
            }
            isStuck = true;
            for (int next = 0; next < play.cells && isStuck; next++) {
                int looked = next;
                boolean isSafe = possible.stream().noneMatch(other -> play.answers[other][looked] == 9);
                if (isSafe && opened.add(next)) {
                    unopened--;
                    isStuck = false;
                }
            }
        }
        return unopened == 0;
    }

    // ---- figures

    int bits(int game) {
        Play play = play(game);
        int bits = 0;
        while (play.left().size() * Math.pow(2, bits + 1) <= play.told.size()) {
            bits++;
        }
        return bits;
    }

    int unlike() {
        Set<List<Object>> sets = new HashSet<>();
        for (Play play : plays) {
            sets.add(List.of(play.told.size(), play.left()));
        }
        return sets.size();
    }

    float leftShare(int game) {
        return (float) play(game).left().size() / (float) play(game).told.size();
    }

    double meanLeft(int game, int question) {
        return (double) weigh(game, question, 's') / (double) play(game).left().size();
    }

    boolean isTrue() {
        return true;
    }
}
