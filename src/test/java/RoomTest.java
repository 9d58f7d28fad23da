import com.sun.management.ThreadMXBean;
import java.lang.management.ManagementFactory;
import java.util.ArrayList;
import java.util.List;

/** A whole run of each call, made over and over, stays small in the one room that all calls of a run live in. */
public final class RoomTest {
    private static final Checks CHECKS = new Checks();
    private static final ThreadMXBean THREADS = (ThreadMXBean) ManagementFactory.getThreadMXBean();
    private static final int CALLS = 500;
    /** A house takes some 700,000 bytes; one long row made anew by each call would come to millions. */
    private static final long MOST_BYTES = 1_500_000;
    /** A refusal fills in where it was thrown, which the machine keeps in rows of its own. */
    private static final long MOST_BYTES_OF_REFUSALS = 3_000_000;

    private RoomTest() {
    }

    interface Turn {
        void call(Guesswright house, int turn);
    }

    public static void main(String[] arguments) {
        for (Turn turn : turns()) {
            run(turn);
        }
        List<Turn> turns = turns();
        for (int i = 0; i < turns.size(); i++) {
            Turn turn = turns.get(i);
            CHECKS.holds("calls of kind " + i + " stay small", run(turn) < MOST_BYTES);
        }
        Turn refused = RoomTest::refusedTurn;
        run(refused);
        CHECKS.holds("refused calls stay small", run(refused) < MOST_BYTES_OF_REFUSALS);
        CHECKS.end();
    }

    /** How many bytes a house and its calls took. */
    private static long run(Turn turn) {
        long before = THREADS.getCurrentThreadAllocatedBytes();
        Guesswright house = new Guesswright();
        for (int call = 0; call < CALLS; call++) {
            turn.call(house, call);
        }
        return THREADS.getCurrentThreadAllocatedBytes() - before;
    }

    private static List<Turn> turns() {
        List<Turn> turns = new ArrayList<>();
        turns.add(anew(house -> house.codes(4, 6, true)));
        turns.add(anew(house -> house.codes(4, 6, false)));
        turns.add(anew(house -> house.numbers(64)));
        turns.add(anew(house -> house.coins(7, true)));
        turns.add(anew(house -> house.fleets(5, 5, 144, true)));
        turns.add(anew(house -> house.mines(4, 4, 4, true)));
        turns.add(anew(Guesswright::graph));
        turns.add(within(house -> house.codes(4, 6, true), house -> house.best(0, 's')));
        turns.add(within(house -> house.codes(4, 6, true), house -> house.find(0, 1295, 'p')));
        turns.add(within(house -> house.mines(4, 4, 4, true), house -> house.isClear(0, 0, 15)));
        turns.add(within(house -> house.numbers(14), house -> house.depth(0)));
        turns.add(within(house -> house.numbers(10), house -> house.leastSum(0)));
        turns.add(within(house -> house.numbers(12), house -> house.atOnce(0)));
        turns.add(within(house -> house.numbers(60), house -> house.proof(0, 30)));
        turns.add(within(house -> house.numbers(8), Guesswright::isTrue));
        turns.add(within(house -> house.codes(4, 6, true), Guesswright::unlike));
        turns.add(within(house -> house.codes(4, 6, true), house -> house.meanLeft(0, 8)));
        turns.add(within(house -> house.codes(4, 6, true), house -> house.adverse(0, 8) + house.back(0)));
        return turns;
    }

    private static Turn anew(Boundaries.InHouse maker) {
        return (house, turn) -> {
            if (turn % 9 == 8) {
                house.clear();
            } else {
                maker.in(house);
            }
        };
    }

    private static Turn within(Boundaries.InHouse maker, Boundaries.InHouse call) {
        return (house, turn) -> {
            if (turn == 0) {
                maker.in(house);
            } else {
                call.in(house);
            }
        };
    }

    private static void refusedTurn(Guesswright house, int turn) {
        try {
            house.fleets(5, 5, 111, true);
            CHECKS.holds("turn " + turn + " is refused", false);
        } catch (IllegalArgumentException tooMany) {
            CHECKS.holds("turn " + turn + " is refused", true);
        }
    }
}
