import java.util.Map;
import java.util.Random;
import java.util.TreeMap;
import java.util.concurrent.Callable;

/** Long runs of calls with a fixed seed: every answer is the one of the plain game. */
public final class RandomRunsTest {
    private static final int CALLS = 512;
    private static final int[][] SIZES = {
        {3, 3}, {3, 4}, {4, 3}, {4, 4}, {5, 4}, {4, 5}, {5, 5}, {4, 6}, {6, 4}, {7, 4}, {8, 4}, {5, 6}, {6, 5},
        {3, 7}, {9, 3}, {7, 3}, {9, 4}, {7, 6}, {6, 7}, {8, 7}, {9, 6}, {8, 6}, {7, 7},
        {-4, 2}, {9, 7}, {12, 100}, {Integer.MIN_VALUE, Integer.MAX_VALUE}, {Integer.MAX_VALUE, Integer.MIN_VALUE},
    };

    private final Check check = new Check();
    private final Map<String, Integer> met = new TreeMap<>();
    private final Random random = new Random(20261115);
    private DropFour game;
    private PlainGame plain;
    private int calls;
    private boolean paired;

    public static void main(String[] args) {
        new RandomRunsTest().all();
    }

    private void all() {
        for (int round = 0; round < 20; round++) {
            for (int[] size : SIZES) {
                run(size[0], size[1]);
            }
        }
        for (String kind : new String[] {
            "winner 0", "winner 1", "winner 2", "value > 1", "value < -2", "value 0", "value of 12",
            "value of 13 throws", "beats true", "beats false", "beats of 30", "beats of 32 throws", "full column"}) {
            check.same("met often enough: " + kind, met.getOrDefault(kind, 0) >= 5, true);
        }
        check.end("RandomRunsTest");
    }

    private void run(int w, int h) {
        game = new DropFour(w, h);
        plain = new PlainGame(w, h);
        calls = 0;
        boolean oftenAsked = random.nextBoolean();
        paired = random.nextBoolean();
        while (calls < CALLS) {
            int kind = random.nextInt(20);
            if (plain.winner() != PlainGame.NONE && kind < 12) {
                askAll();
                takeBack(1 + random.nextInt(6));
            } else if (kind < 14) {
                dropOne();
            } else if (kind < 15) {
                takeBack(1 + random.nextInt(3));
            } else if (kind < 16) {
                askWrong();
            } else if (oftenAsked || plain.empty() <= 14 || paired && plain.empty() <= 32) {
                askAll();
            }
        }
    }

    private void ask(String what, Callable<?> got, Callable<?> due) {
        calls++;
        if (calls <= CALLS) {
            check.same(plain.w + "x" + plain.h + " call " + calls + ": " + what, Check.outcome(got), Check.outcome(due));
        }
    }

    private void dropOne() {
        int column = likelyColumn();
        // Most games should last, or boards never fill.
        for (int i = 0; i < 12 && random.nextInt(20) != 0 && ends(column); i++) {
            column = likelyColumn();
        }
        int chosen = column;
        if (plain.height(chosen) == plain.h) {
            meet("full column");
        }
        ask("drop(" + chosen + ")", () -> game.drop(chosen), () -> plain.drop(chosen));
    }

    /** In a paired run mostly a column with an odd number of empty squares, so that beats() answers. */
    private int likelyColumn() {
        int column = random.nextInt(plain.w);
        for (int i = 0; paired && i < 20 && (plain.h - plain.height(column)) % 2 == 0; i++) {
            column = random.nextInt(plain.w);
        }
        return column;
    }

    private boolean ends(int column) {
        if (plain.winner() != PlainGame.NONE || plain.height(column) == plain.h) {
            return true;
        }
        plain.drop(column);
        boolean ended = plain.winner() == 0 || plain.winner() == 1;
        plain.back();
        return ended;
    }

    private void takeBack(int times) {
        for (int i = 0; i < times; i++) {
            ask("back()", game::back, plain::back);
        }
    }

    private void askAll() {
        ask("turn()", game::turn, plain::turn);
        ask("winner()", game::winner, plain::winner);
        ask("empty()", game::empty, plain::empty);
        for (int p = 0; p < 2; p++) {
            int player = p;
            ask("open(" + player + ")", () -> game.open(player), () -> plain.open(player));
            ask("threats(" + player + ")", () -> game.threats(player), () -> plain.threats(player));
        }
        int column = random.nextInt(plain.w);
        int row = random.nextInt(plain.h);
        ask("at(" + column + ", " + row + ")", () -> game.at(column, row), () -> plain.at(column, row));
        ask("value()", game::value, plain::value);
        ask("valueOf(" + column + ")", () -> game.valueOf(column), () -> plain.valueOf(column));
        ask("best()", game::best, plain::best);
        ask("beats()", game::beats, plain::beats);
        meetAll();
    }

    private void askWrong() {
        int[] wrong = {-1, plain.w, plain.h, 2, Integer.MAX_VALUE, Integer.MIN_VALUE};
        int number = wrong[random.nextInt(wrong.length)];
        ask("drop(" + number + ")", () -> game.drop(number), () -> plain.drop(number));
        ask("valueOf(" + number + ")", () -> game.valueOf(number), () -> plain.valueOf(number));
        ask("open(" + number + ")", () -> game.open(number), () -> plain.open(number));
        ask("threats(" + number + ")", () -> game.threats(number), () -> plain.threats(number));
        ask("at(" + number + ", 0)", () -> game.at(number, 0), () -> plain.at(number, 0));
        ask("at(0, " + number + ")", () -> game.at(0, number), () -> plain.at(0, number));
    }

    private void meet(String kind) {
        met.merge(kind, 1, Integer::sum);
    }

    private void meetAll() {
        int winner = plain.winner();
        Object value = Check.outcome(plain::value);
        Object beats = Check.outcome(plain::beats);
        meet("winner " + winner);
        if (value instanceof Integer n) {
            meet(n > 1 ? "value > 1" : n < -2 ? "value < -2" : "value " + n);
            meet("value of " + plain.empty());
        } else if (winner == PlainGame.NONE) {
            meet("value of " + plain.empty() + " throws");
        }
        if (beats instanceof Boolean) {
            meet("beats " + beats);
            meet("beats of " + plain.empty());
        } else if (winner == PlainGame.NONE) {
            meet("beats of " + plain.empty() + " throws");
        }
    }
}
