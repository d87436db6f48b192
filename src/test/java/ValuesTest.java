/** Promises 10 to 12: value, valueOf, best. */
public final class ValuesTest {
    private static final int FULL = 99;

    private final Check check = new Check();

    public static void main(String[] args) {
        new ValuesTest().all();
    }

    private void all() {
        wins();
        losses();
        draws();
        tooManyEmpty();
        wrongCalls();
        order();
        check.end("ValuesTest");
    }

    private void wins() {
        worth("the last square of a row", 4, 4, "001122", 1, 3, 0, 0, -10, 1);
        worth("an open three comes next", 5, 3, "1122", 3, 3, 0, 0, 0, 3, 0);
        worth("a win in five, also one in nine", 4, 5, "01133301", 5, 3, 9, 9, 0, 5);
        worth("the least of two columns that win in seven", 4, 5, "01033232", 7, 0, 7, 0, 0, 7);
        worth("a win in nine", 4, 5, "20011121", 9, 0, 9, 9, 9, 0);
        worth("a win in eleven", 4, 5, "11021302", 11, 1, 0, 11, 0, 0);
    }

    private void losses() {
        worth("two squares that win for the other one", 5, 3, "11223", -2, 0, -2, -2, -2, -2, -2);
        worth("a loss in four, the first column is sooner", 4, 6, "213202202021", -4, 3, -2, -2, FULL, -4);
        worth("a loss in six", 5, 4, "21311213", -6, 2, -2, FULL, -6, -6, -2);
        worth("a loss in eight", 4, 5, "22212101", -8, 1, -2, -8, -2, -2);
        worth("a loss in ten, the first column is full", 4, 5, "01000101", -10, 1, FULL, -10, -2, -2);
        worth("a loss with the very last stone", 4, 4, "2322", -12, 0, -12, -12, -12, -12);
    }

    private void draws() {
        worth("an empty board of twelve", 4, 3, "", 0, 0, 0, 0, 0, 0);
        worth("an empty board of twelve, upright", 3, 4, "", 0, 0, 0, 0, 0);
        worth("the smallest board", 3, 3, "", 0, 0, 0, 0, 0);
        worth("two drops that lose", 5, 3, "112", 0, 0, 0, -4, -4, 0, 0);
        worth("one square is left", 4, 3, "01230123012", 0, 3, FULL, FULL, FULL, 0);
        worth("one square is left and wins", 4, 3, "10012021323", 1, 3, FULL, FULL, FULL, 1);
    }

    private void worth(String what, int w, int h, String columns, int value, int best, int... values) {
        DropFour game = Check.game(w, h, columns);
        String before = Check.sight(game, w, h);
        check.same(what + ": value()", game.value(), value);
        check.same(what + ": best()", game.best(), best);
        for (int i = 0; i < values.length; i++) {
            int column = i;
            if (values[i] == FULL) {
                check.state(what + ": valueOf(" + i + ")", () -> game.valueOf(column));
            } else {
                check.same(what + ": valueOf(" + i + ")", game.valueOf(i), values[i]);
            }
        }
        check.same(what + ": nothing has changed", Check.sight(game, w, h), before);
    }

    private void tooManyEmpty() {
        DropFour game = Check.game(5, 3, "11");
        check.same("empty()", game.empty(), 13);
        noValue("13 squares empty", game);
        game.drop(2);
        check.same("value() with 12 squares empty", game.value(), 0);
        check.same("valueOf(1) with 12 squares empty", game.valueOf(1), -4);
        check.same("best() with 12 squares empty", game.best(), 0);
        game.back();
        noValue("13 squares empty again", game);
        noValue("a new 7 by 6 board", new DropFour(7, 6));
        noValue("a win is there, but 13 squares are empty", Check.game(7, 3, "00112255"));
    }

    private void wrongCalls() {
        noValue("the game is won", Check.game(4, 4, "0011223"));
        noValue("no square is empty", Check.game(4, 3, "012301230123"));
        DropFour few = Check.game(4, 3, "000");
        check.state("valueOf a full column", () -> few.valueOf(0));
        check.argument("valueOf(4)", () -> few.valueOf(4));
    }

    private void noValue(String what, DropFour game) {
        check.state(what + ": value()", game::value);
        check.state(what + ": best()", game::best);
        check.state(what + ": valueOf(0)", () -> game.valueOf(0));
        check.state(what + ": valueOf(2)", () -> game.valueOf(2));
        for (int column : new int[] {-1, 9, Integer.MIN_VALUE, Integer.MAX_VALUE}) {
            check.argument(what + ": valueOf(" + column + ")", () -> game.valueOf(column));
        }
    }

    /** What was asked before must not colour what is asked later, nor the other way round. */
    private void order() {
        DropFour game = Check.game(4, 5, "01133301");
        check.same("best() first", game.best(), 3);
        check.same("valueOf(0)", game.valueOf(0), 9);
        Check.play(game, "0");
        check.same("value() after the slower drop", game.value(), -8);
        game.back();
        check.same("valueOf(3)", game.valueOf(3), 5);
        check.same("value()", game.value(), 5);
        Check.play(game, "3");
        check.same("value() after the best drop", game.value(), -4);
    }
}
