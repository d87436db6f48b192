import com.sun.management.ThreadMXBean;
import java.lang.management.ManagementFactory;

/** What the calls of a run make (rule 12 of LANGUAGE.md): a new object little, a call that answers nothing. */
public final class RoomTest {
    private static final int CALLS = 512;
    // One table of positions is all that is large: 1024 longs and twice as many ints.
    private static final long MOST_BYTES_OF_AN_OBJECT = 20_000;
    // The virtual machine now and then makes some hundred bytes of its own; 512 objects are 8192 at least.
    private static final long MOST_BYTES_OF_A_RUN = 6_000;

    private final Check check = new Check();
    private final ThreadMXBean threads = (ThreadMXBean) ManagementFactory.getThreadMXBean();
    // Answers are added up, so that no call can be left out.
    private long answers = 0;

    public static void main(String[] args) {
        new RoomTest().all();
    }

    private void all() {
        Position[] positions = {
            new Position("values and following, 12 squares empty", 4, 4, "0123"),
            new Position("values, 12 squares empty in 9 columns", 9, 3, "012345678201345"),
            new Position("following, 30 squares empty", 5, 6, ""),
        };
        for (Position position : positions) {
            // Once unmeasured: whatever is made when code is first used is not the calls' own.
            bytesOfRun(position);
            check.same(position.what() + ": bytes that a run of calls makes are few",
                    bytesOfRun(position) <= MOST_BYTES_OF_A_RUN, true);
            check.same(position.what() + ": bytes that a new object makes are few",
                    bytesOfObject(position) <= MOST_BYTES_OF_AN_OBJECT, true);
        }
        check.same("calls were made", answers != 0, true);
        check.end("RoomTest");
    }

    private long bytesOfObject(Position position) {
        long before = threads.getCurrentThreadAllocatedBytes();
        DropFour game = new DropFour(position.w(), position.h());
        long after = threads.getCurrentThreadAllocatedBytes();
        answers += game.empty();
        return after - before;
    }

    private long bytesOfRun(Position position) {
        DropFour game = position.game();
        boolean valued = game.empty() <= 12;
        boolean followed = Check.outcome(game::beats) instanceof Boolean;
        long before = threads.getCurrentThreadAllocatedBytes();
        for (int i = 0; i < CALLS; i++) {
            answers += look(game, i);
            if (valued) {
                answers += value(game, i);
            }
            if (followed) {
                answers += game.beats() ? 1 : 0;
            }
        }
        return threads.getCurrentThreadAllocatedBytes() - before;
    }

    private static long look(DropFour game, int i) {
        long answers = game.drop(2) + game.turn() + game.winner() + game.at(2, 0) + game.empty();
        return answers + game.open(i % 2) + game.threats(i % 2) + game.back();
    }

    private static long value(DropFour game, int i) {
        return game.value() + game.best() + game.valueOf(i % 2 + 2);
    }
}
