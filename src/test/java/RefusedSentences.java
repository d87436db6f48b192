import java.util.LinkedHashMap;
import java.util.Map;
import java.util.concurrent.Callable;

/** Calls that throw: what they leave as it was, and which exception comes first. */
final class RefusedSentences {
    private static final int LEAST = Integer.MIN_VALUE;
    private static final int MOST = Integer.MAX_VALUE;

    private final Sentences sentences;
    private final Check check;

    RefusedSentences(Sentences sentences) {
        this.sentences = sentences;
        check = sentences.check;
    }

    void all() {
        sentences.test("Terms", "A call that throws changes nothing;", this::refusedCallsChangeNothing);
        sentences.test("Terms", "of several exceptions that a call names the one named first is thrown.",
                this::firstNamedIsThrown);
    }

    private void refusedCallsChangeNothing() {
        int refused = 0;
        for (Position[] some : new Position[][] {Position.OVER, Position.NOT_OVER}) {
            for (Position position : some) {
                refused += changeNothing(position);
            }
        }
        check.same("refused calls are many", refused > 500, true);
    }

    /** After each refused call all is as in a game without it, also the way back. */
    private int changeNothing(Position position) {
        DropFour game = position.game();
        String before = Check.wholeSight(position.game(), position.w(), position.h());
        int refused = 0;
        for (Map.Entry<String, Callable<?>> call : calls(game, position.w(), position.h()).entrySet()) {
            if (Check.outcome(call.getValue()).toString().startsWith("throws.")) {
                refused++;
                check.same(position.what() + ", after " + call.getKey() + " was refused: all that can be asked",
                        Check.wholeSight(game, position.w(), position.h()), before);
            }
        }
        for (int left = position.columns().length() - 1; left >= 0; left--) {
            check.same(position.what() + ", after refused calls: back()", game.back(), position.columns().charAt(left) - '0');
        }
        check.state(position.what() + ", after refused calls: back() of all stones and one more", game::back);
        return refused;
    }

    /** Calls that may be refused; none of them changes anything when it is not. */
    private static Map<String, Callable<?>> calls(DropFour game, int w, int h) {
        Map<String, Callable<?>> calls = new LinkedHashMap<>();
        for (int number : new int[] {-1, w, h, 2, LEAST, MOST, 64}) {
            calls.put("valueOf(" + number + ")", () -> game.valueOf(number));
            calls.put("at(" + number + ", 0)", () -> game.at(number, 0));
            calls.put("at(0, " + number + ")", () -> game.at(0, number));
            calls.put("open(" + number + ")", () -> game.open(number));
            calls.put("threats(" + number + ")", () -> game.threats(number));
        }
        for (int column = -1; column <= w; column++) {
            int chosen = column;
            boolean isColumn = column >= 0 && column < w;
            if (!isColumn || game.winner() != DropFour.NONE || game.at(column, h - 1) != DropFour.NONE) {
                calls.put("drop(" + column + ")", () -> game.drop(chosen));
            }
        }
        calls.put("value()", game::value);
        calls.put("best()", game::best);
        calls.put("beats()", game::beats);
        if (game.empty() == w * h) {
            calls.put("back()", game::back);
        }
        return calls;
    }

    /** Only drop and valueOf name two: the column is looked at first, whatever the game is like. */
    private void firstNamedIsThrown() {
        for (Position[] some : new Position[][] {Position.OVER, Position.NOT_OVER}) {
            for (Position position : some) {
                DropFour game = position.game();
                for (int column : new int[] {-1, position.w(), LEAST, MOST}) {
                    check.argument(position.what() + ": drop(" + column + ")", () -> game.drop(column));
                    check.argument(position.what() + ": valueOf(" + column + ")", () -> game.valueOf(column));
                }
            }
        }
    }
}
