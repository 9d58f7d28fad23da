import java.lang.reflect.InvocationTargetException;
import java.lang.reflect.Method;
import java.lang.reflect.Modifier;
import java.util.ArrayList;
import java.util.Arrays;
import java.util.Comparator;
import java.util.List;

/**
 * Every method with every mix of arguments at edges and far outside, in houses of many states: each answer, and each
 * exception, held against that of the slow model, and that what is refused changes nothing.
 */
public final class SweepTest {
    private static final Checks CHECKS = new Checks();
    private static final int LOW = Integer.MIN_VALUE;
    private static final int HIGH = Integer.MAX_VALUE;
    private static final int[] EDGES = {LOW, LOW + 1, -100, -1, 0, 1, 2, 3, 4, 5, 6, 7, 8, 9, 14, 19, 20, 21, 24, 25,
        31, 32, 33, 40, 41, 63, 64, 65, 100, 101, 102, 109, 110, 1295, 1296, 2000, 2001, 99999, 100000, HIGH - 1, HIGH};
    private static final int[] NEAR = {LOW, -1, 0, 1, 2, 5, 8, 9, 24, 25, 102, 109, 110, 1295, HIGH};
    private static final int[] SMALL = {LOW, -1, 0, 1, 2, 5, 6, HIGH};
    private static final int[] SHIPS = {LOW, -11, -1, 0, 1, 3, 5, 6, 10, 11, 22, 50, 55, 56, 60, 101, 111, 121, 155,
        212, 550, 555, 556, 605, 999, 1000, 1111, HIGH};
    private static final int[] MINES = {LOW, -1, 0, 1, 2, 3, 4, 5, 6, 10, 24, 25, 26, 32, HIGH};
    private static final char[] LETTERS = {'w', 's', 'p', 'W', 0, 65535};
    private static final List<String> MAKERS = List.of("codes", "numbers", "coins", "fleets", "mines", "graph");
    private static final List<String> OTHERS = List.of("clear", "vertices", "edge");

    private final Guesswright house = new Guesswright();
    private final Model model = new Model();
    private final String name;
    private final boolean isSmall;

    /** A small house is looked at before and behind each call. */
    private SweepTest(String name, boolean isSmall) {
        this.name = name;
        this.isSmall = isSmall;
    }

    public static void main(String[] arguments) throws Exception {
        for (Method method : methods()) {
            if (MAKERS.contains(method.getName()) || OTHERS.contains(method.getName())) {
                makers(method);
            }
        }
        new SweepTest("no games", true).asks();
        SweepTest small = new SweepTest("small games", true);
        small.smallGames();
        small.asks();
        small.answersTaken();
        small.asks();
        SweepTest large = new SweepTest("large games", false);
        large.largeGames();
        large.asks();
        SweepTest lies = new SweepTest("games with lies", true);
        lies.gamesWithLies();
        lies.asks();
        CHECKS.end();
    }

    private static List<Method> methods() {
        Method[] methods = Guesswright.class.getDeclaredMethods();
        List<Method> open = new ArrayList<>();
        for (Method method : methods) {
            if (Modifier.isPublic(method.getModifiers())) {
                open.add(method);
            }
        }
        open.sort(Comparator.comparing(Method::getName));
        return open;
    }

    // ---- houses

    private void both(String method, Object... arguments) throws Exception {
        for (Method one : methods()) {
            if (one.getName().equals(method)) {
                compare(one, arguments);
            }
        }
    }

    private void smallGames() throws Exception {
        both("codes", 2, 3, true);
        both("numbers", 1);
        both("numbers", 15);
        both("coins", 2, true);
        both("fleets", 2, 2, 22, true);
        both("fleets", 2, 3, 2, false);
        both("mines", 3, 2, 2, true);
        both("vertices", 6);
        both("edge", 0, 1);
        both("edge", 1, 5);
        both("graph");
    }

    private void answersTaken() throws Exception {
        both("take", 0, 1, 10);
        for (int taken = 0; taken < 30; taken++) {
            both("take", 2, 102, 0);
        }
        both("adverse", 3, 5);
        both("adverse", 5, 2);
        both("adverse", 6, 0);
        both("take", 7, 0, 99);
    }

    private void largeGames() throws Exception {
        both("codes", 4, 6, true);
        both("codes", 4, 6, false);
        both("numbers", 64);
        both("coins", 7, true);
        both("fleets", 5, 5, 5, true);
        both("mines", 5, 5, 2, false);
        both("vertices", 20);
        both("graph");
        both("take", 0, 1295, 40);
        both("take", 1, 51, 22);
        both("take", 2, 60, 0);
        both("take", 5, 12, 9);
    }

    private void gamesWithLies() throws Exception {
        both("codes", 2, 3, false);
        both("numbers", 9);
        both("coins", 3, true);
        both("fleets", 3, 3, 2, true);
        both("mines", 2, 2, 1, false);
        both("graph");
        for (int game = 0; game < 6; game++) {
            both("setLies", game, 1 + game % 3);
        }
        both("take", 1, 4, 1);
        both("take", 2, 7, 9);
        both("take", 3, 4, 2);
        both("take", 3, 4, 2);
        both("take", 4, 0, 9);
        both("take", 5, 0, 1);
    }

    // ---- arguments

    /** Makers are called in a house with room, of which games are taken away when it is full, and in a full one. */
    private static void makers(Method method) throws Exception {
        SweepTest open = new SweepTest("room", true);
        SweepTest full = new SweepTest("full", true);
        for (int game = 0; game < 8; game++) {
            full.both("numbers", 1);
        }
        open.both("vertices", 20);
        for (Object[] arguments : mixes(method)) {
            if (Checks.gamesOf(open.house) == 8) {
                open.both("clear");
            }
            open.compare(method, arguments);
            if (!method.getName().equals("clear")) {
                full.compare(method, arguments);
            }
        }
    }

    /** Calls that change a game are taken back at once, so that each call finds the same house. */
    private void asks() throws Exception {
        for (Method method : methods()) {
            String called = method.getName();
            if (MAKERS.contains(called) || OTHERS.contains(called) || called.equals("back")) {
                continue;
            }
            for (Object[] arguments : mixes(method)) {
                boolean isTaken = compare(method, arguments);
                if (isTaken && (called.equals("take") || called.equals("adverse"))) {
                    both("back", arguments[0]);
                }
            }
        }
    }

    private static List<Object[]> mixes(Method method) {
        List<Object[]> mixes = new ArrayList<>();
        mix(method, new Object[method.getParameterCount()], 0, mixes);
        return mixes;
    }

    private static void mix(Method method, Object[] arguments, int at, List<Object[]> mixes) {
        if (at == arguments.length) {
            mixes.add(arguments.clone());
            return;
        }
        Class<?> type = method.getParameterTypes()[at];
        if (type == boolean.class) {
            mixWith(method, arguments, at, mixes, true);
            mixWith(method, arguments, at, mixes, false);
        } else if (type == char.class) {
            for (char letter : LETTERS) {
                mixWith(method, arguments, at, mixes, letter);
            }
        } else {
            for (int number : numbersOf(method, at)) {
                mixWith(method, arguments, at, mixes, number);
            }
        }
    }

    private static void mixWith(Method method, Object[] arguments, int at, List<Object[]> mixes, Object argument) {
        arguments[at] = argument;
        mix(method, arguments, at + 1, mixes);
    }

    private static int[] numbersOf(Method method, int at) {
        boolean isGrid = method.getName().equals("fleets") || method.getName().equals("mines");
        if (isGrid) {
            return at < 2 ? SMALL : method.getName().equals("fleets") ? SHIPS : MINES;
        }
        boolean isOfGame = !MAKERS.contains(method.getName()) && !OTHERS.contains(method.getName());
        int numbers = 0;
        for (Class<?> type : method.getParameterTypes()) {
            numbers += type == int.class ? 1 : 0;
        }
        if (isOfGame && at == 0) {
            return new int[] {LOW, -1, 0, 1, 2, 3, 4, 5, 6, 7, 8, HIGH};
        }
        return numbers > 2 ? NEAR : EDGES;
    }

    // ---- both answers

    /** Answers whether the call was answered, not refused. */
    private boolean compare(Method method, Object[] arguments) throws Exception {
        String before = isSmall ? Checks.stateOf(house) : "";
        Object due = answerOf(Model.class, model, method, arguments);
        Object got = answerOf(Guesswright.class, house, method, arguments);
        boolean isRefused = got instanceof Class<?>;
        String call = name + ": " + method.getName() + Arrays.toString(arguments);
        CHECKS.is(call, due, () -> got);
        if (isRefused) {
            CHECKS.holds(call + " throws what it may", Arrays.asList(method.getExceptionTypes()).contains(got));
        }
        if (isRefused && isSmall) {
            CHECKS.holds(call + " changes nothing", before.equals(Checks.stateOf(house)));
        }
        return !isRefused;
    }

    private static Object answerOf(Class<?> type, Object asked, Method method, Object[] arguments) throws Exception {
        Method called = type.getDeclaredMethod(method.getName(), method.getParameterTypes());
        called.setAccessible(true);
        try {
            return called.invoke(asked, arguments);
        } catch (InvocationTargetException thrown) {
            return thrown.getCause().getClass();
        }
    }
}
