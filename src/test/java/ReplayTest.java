import java.util.ArrayList;
import java.util.List;
import java.util.Random;

/**
 * Runs by chance, called once more in ways that must not matter: without the calls that were refused, without those
 * that only ask, with these asked twice, with detours that undo themselves, behind another run that was cleared away.
 * No house is used for more calls than the document speaks of.
 */
public final class ReplayTest {
    private static final Checks CHECKS = new Checks();
    private static final int RUNS = 300;
    private static final int LENGTH = 150;
    private static final int MOST_CALLS = 512;
    private static final int MOST_TAKEN = 30;

    private final String name;
    private final Random random;
    private final Guesswright house = new Guesswright();
    private int calls = 0;

    private ReplayTest(String name, int seed) {
        this.name = "run " + seed + " " + name + ", call ";
        random = new Random(seed);
    }

    public static void main(String[] arguments) {
        int runs = arguments.length > 1 ? Integer.parseInt(arguments[1]) : RUNS;
        for (int seed = 0; seed < runs; seed++) {
            List<Draft.Row> rows = new Draft(seed, LENGTH).rows;
            List<Draft.Row> earlier = new Draft(seed + runs, LENGTH).rows;
            new ReplayTest("as it was", seed).replay(rows);
            new ReplayTest("without what was refused", seed).replayTaken(rows);
            new ReplayTest("without what only asks", seed).replayChanges(rows);
            new ReplayTest("with each ask twice", seed).replayTwice(rows);
            new ReplayTest("with detours", seed).replayWithDetours(rows);
            new ReplayTest("behind another", seed).replayBehind(earlier, rows);
        }
        CHECKS.end();
    }

    private Object called(Draft.Row row) {
        calls++;
        if (calls > MOST_CALLS) {
            throw new IllegalStateException("what this call answers is free");
        }
        return row.answerOf(house);
    }

    private void same(Draft.Row row) {
        Object got = called(row);
        CHECKS.is(name + calls + " " + row, row.answer, () -> got);
    }

    private void replay(List<Draft.Row> rows) {
        rows.forEach(this::same);
    }

    private void replayTaken(List<Draft.Row> rows) {
        rows.stream().filter(row -> !row.isRefused()).forEach(this::same);
    }

    private void replayChanges(List<Draft.Row> rows) {
        rows.stream().filter(Draft.Row::isChanging).forEach(this::same);
    }

    private void replayTwice(List<Draft.Row> rows) {
        for (Draft.Row row : rows) {
            same(row);
            if (!row.isChanging()) {
                same(row);
            }
        }
    }

    private void replayWithDetours(List<Draft.Row> rows) {
        for (Draft.Row row : rows) {
            detour(row);
            same(row);
        }
    }

    private void detour(Draft.Row ahead) {
        int game = random.nextInt(Math.max(1, ahead.taken.length));
        switch (random.nextInt(3)) {
            case 0 -> takeAndBack(game, ahead);
            case 1 -> edgeTwice(ahead.vertices);
            default -> refused(game);
        }
    }

    private void takeAndBack(int game, Draft.Row ahead) {
        if (game < ahead.taken.length && ahead.taken[game] < MOST_TAKEN) {
            called(new Draft.Row("adverse", game, ahead.asked[game]));
            called(new Draft.Row("back", game));
        }
    }

    private void edgeTwice(int vertices) {
        if (vertices > 1) {
            int one = random.nextInt(vertices);
            int other = (one + 1 + random.nextInt(vertices - 1)) % vertices;
            called(new Draft.Row("edge", one, other));
            called(new Draft.Row("edge", other, one));
        }
    }

    private void refused(int game) {
        List<Draft.Row> refused = new ArrayList<>();
        refused.add(new Draft.Row("fleets", 5, 5, 111, true));
        refused.add(new Draft.Row("fleets", 1, 3, 22, true));
        refused.add(new Draft.Row("codes", 4, 3, false));
        refused.add(new Draft.Row("mines", 5, 5, 3, true));
        refused.add(new Draft.Row("vertices", 21));
        refused.add(new Draft.Row("edge", 0, 0));
        refused.add(new Draft.Row("setLies", game, 4));
        refused.add(new Draft.Row("take", game, -1, 0));
        refused.add(new Draft.Row("adverse", game, 99));
        refused.add(new Draft.Row("find", game, 0, 'W'));
        Draft.Row row = refused.get(random.nextInt(refused.size()));
        Object got = called(row);
        CHECKS.holds(name + calls + " " + row + " is refused", got instanceof Class<?>);
    }

    /** Clearing leaves the graph, whose edges are taken out by telling that it has one vertex. */
    private void replayBehind(List<Draft.Row> earlier, List<Draft.Row> rows) {
        earlier.forEach(this::called);
        called(new Draft.Row("clear"));
        called(new Draft.Row("vertices", 1));
        replay(rows);
    }
}
