/** What a position is worth: the terms, and promises 10 to 12. */
final class ValuesSentences {
    private static final int FULL = 99;

    /** A position with few empty squares, its value, its best column, and what each column is worth. */
    private record Worth(int w, int h, String columns, int value, int best, int... ofColumns) {
        DropFour game() {
            return Check.game(w, h, columns);
        }

        String what() {
            return w + " by " + h + " " + columns + ": ";
        }
    }

    private static final Worth[] WINS = {
        new Worth(3, 4, "20220121010", 1, 1, FULL, 1, FULL),
        new Worth(4, 4, "001122", 1, 3, 0, 0, -10, 1),
        new Worth(3, 4, "1010202", 1, 0, 1, 0, 0),
        new Worth(5, 3, "1122", 3, 3, 0, 0, 0, 3, 0),
        new Worth(4, 3, "123313210", 3, 2, 0, FULL, 3, FULL),
        new Worth(4, 3, "033301", 5, 1, 0, 5, 0, FULL),
        new Worth(4, 3, "3202321", 5, 3, 0, 0, FULL, 5),
        new Worth(4, 4, "13122322", 7, 1, 0, 7, FULL, 0),
        new Worth(4, 3, "10332", 7, 3, 0, 0, 0, 7),
        new Worth(4, 4, "322322", 9, 3, 0, 0, FULL, 9),
        new Worth(4, 3, "332", 9, 3, 0, 0, 0, 9),
        new Worth(5, 3, "0331", 11, 3, 0, 0, 0, 11, 0),
        new Worth(4, 4, "11033", 11, 1, 0, 11, 0, 0),
        new Worth(4, 5, "02103123", 11, 1, 0, 11, 0, 0),
    };

    private static final Worth[] LOSSES = {
        new Worth(4, 3, "2022103033", -2, 1, FULL, -2, FULL, FULL),
        new Worth(5, 3, "11223", -2, 0, -2, -2, -2, -2, -2),
        new Worth(4, 3, "11313320", -4, 0, -4, FULL, -4, FULL),
        new Worth(4, 3, "1223113", -4, 2, -2, FULL, -4, -4),
        new Worth(4, 3, "221211", -6, 0, -6, FULL, FULL, -6),
        new Worth(4, 4, "330300230", -6, 1, FULL, -6, -2, FULL),
        new Worth(4, 3, "2212", -8, 0, -8, -8, FULL, -8),
        new Worth(4, 4, "0133133", -8, 0, -8, -8, -8, FULL),
        new Worth(4, 4, "131113", -10, 0, -10, FULL, -10, -10),
        new Worth(4, 5, "230111202", -10, 2, -2, -2, -10, -2),
        new Worth(4, 4, "1023", -12, 0, -12, -12, -12, -12),
        new Worth(5, 4, "20400302", -12, 1, FULL, -12, -10, -12, -10),
    };

    private static final Worth[] DRAWS = {
        new Worth(3, 3, "", 0, 0, 0, 0, 0),
        new Worth(4, 3, "", 0, 0, 0, 0, 0, 0),
        new Worth(3, 4, "", 0, 0, 0, 0, 0),
        new Worth(3, 4, "1", 0, 0, 0, 0, 0),
        new Worth(5, 3, "112", 0, 0, 0, -4, -4, 0, 0),
        new Worth(3, 4, "11000012221", 0, 2, FULL, FULL, 0),
        new Worth(3, 4, "0002101221", 0, 1, FULL, 0, 0),
        new Worth(3, 4, "21212", 0, 2, -2, -2, 0),
    };

    /** The sooner win stands behind a later one; the last is the least column of two that are as good. */
    private static final Worth[] SOONER_WINS = {
        new Worth(4, 4, "12133013", 1, 1, 3, 1, 3, 0),
        new Worth(4, 5, "00221022", 1, 3, 11, 11, 0, 1),
        new Worth(4, 5, "32300001", 3, 2, 11, 11, 3, 5),
        new Worth(4, 4, "303100212", 5, 1, 7, 5, 7, 0),
        new Worth(4, 5, "112130332", 9, 1, 11, 9, 9, 0),
    };

    /** The later loss stands behind a sooner one. */
    private static final Worth[] LATER_LOSSES = {
        new Worth(4, 3, "1223113", -4, 2, -2, FULL, -4, -4),
        new Worth(4, 4, "1132222130", -6, 1, -4, -6, FULL, -2),
        new Worth(4, 4, "102001", -10, 2, -8, -8, -10, -10),
        new Worth(4, 5, "02031200", -12, 2, -10, -2, -12, -10),
        new Worth(4, 5, "13130223", -12, 3, -2, -2, -2, -12),
    };

    /** A draw stands behind losses, late ones too. */
    private static final Worth[] DRAWS_NOT_LOSSES = {
        new Worth(4, 3, "2311", 0, 1, -8, 0, 0, 0),
        new Worth(4, 3, "23223", 0, 3, -6, -6, FULL, 0),
        new Worth(5, 3, "20123", 0, 4, -2, -2, -2, -2, 0),
    };

    /** A win stands behind draws and losses, also the latest one. */
    private static final Worth[] WINS_NOT_DRAWS = {
        new Worth(3, 5, "101210", 1, 1, 0, 1, 0),
        new Worth(3, 5, "212121", 1, 2, -2, 0, 1),
        new Worth(4, 4, "13033", 11, 1, -10, 11, 0, 0),
        new Worth(4, 3, "11012", 7, 3, -2, FULL, -2, 7),
    };

    private static final Worth[] LARGE = {
        new Worth(8, 7, "07120602661056510505403147662267225525771377", 9, 4, FULL, -2, FULL, -2, 9, FULL, FULL, FULL),
        new Worth(8, 7, "32707155355763706373715557122031136626626104", -4, 0, -4, -4, -4, FULL, -2, FULL, FULL, FULL),
        new Worth(8, 7, "7635360233163404431477673042540001764765751061", 0, 1, FULL, 0, -2, FULL, FULL, -8, FULL, FULL),
        new Worth(8, 7, "047413565701333650102326332221246575457606421", 1, 5, 0, 9, FULL, FULL, 0, 1, 0, 3),
        new Worth(9, 6, "7813465827485441700180168803760761017232322", 7, 2, FULL, FULL, 7, 7, -6, -2, -6, FULL, FULL),
        new Worth(9, 6, "326122455788185586122647764255778784404163", -10, 0, -10, -10, FULL, -2, FULL, FULL, -10, FULL, FULL),
        new Worth(9, 6, "473170674603367603781481651603107508818822", 0, 5, FULL, FULL, -2, -2, -2, 0, FULL, FULL, FULL),
        new Worth(9, 3, "752813272830354", 11, 1, -6, 11, FULL, FULL, -6, -4, -10, -4, -4),
        new Worth(9, 3, "501272233506345", -12, 0, -12, -12, FULL, FULL, -2, FULL, -12, -12, -10),
        new Worth(7, 6, "642346236356001054245441326552", -12, 1, -6, -12, -6, -10, FULL, -6, -6),
        new Worth(7, 7, "33006540653332610325063121424655556214", 11, 2, 0, -6, 11, FULL, -10, FULL, -10),
        new Worth(3, 7, "121112121", 1, 2, -2, 0, 1),
    };

    private static final Worth[][] ALL = {
        WINS, LOSSES, DRAWS, SOONER_WINS, LATER_LOSSES, DRAWS_NOT_LOSSES, WINS_NOT_DRAWS, LARGE,
    };

    private static final Position[] TOO_MANY_EMPTY = {
        new Position("13 squares empty", 5, 3, "11"),
        new Position("13 squares empty, one drop wins", 7, 3, "00112255"),
        new Position("13 squares empty, a column is full", 4, 4, "000"),
        new Position("13 squares empty on the largest board", 8, 7, "3270715535576370637371555712203113662662610"),
        new Position("13 squares empty on the widest board", 9, 6, "32612245578818558612264776425577878440416"),
        new Position("14 squares empty", 5, 3, "1"),
        new Position("16 squares empty", 4, 4, ""),
        new Position("42 squares empty", 7, 6, ""),
        new Position("54 squares empty", 9, 6, ""),
        new Position("56 squares empty", 8, 7, ""),
    };

    private final Sentences sentences;
    private final Check check;

    ValuesSentences(Sentences sentences) {
        this.sentences = sentences;
        check = sentences.check;
    }

    void all() {
        terms();
        value();
        valueOf();
        best();
    }

    private void terms() {
        sentences.test("Terms", "THE VALUE of a position that is not over, for the one whose turn it is: n when it can win "
                + "whatever the other one does, n being the least number for which it can have won after n drops (of both) "
                + "at most;", () -> values(WINS));
        sentences.test("Terms", "-n when the other one can win whatever it does, n being the greatest number of drops up to "
                + "the end for which it can hold out;", () -> values(LOSSES));
        sentences.test("Terms", "0 when neither can.", () -> values(DRAWS));
        sentences.test("Terms", "A value is BETTER than another one as a win is better the sooner it comes,",
                () -> bests(SOONER_WINS));
        sentences.test("Terms", "a loss the later,", () -> bests(LATER_LOSSES));
        sentences.test("Terms", "and 0 better than a loss.", () -> bests(DRAWS_NOT_LOSSES));
    }

    private void value() {
        String promise = "Promise 10: value";
        sentences.test(promise, "The value.", this::allValues);
        sentences.test(promise, "IllegalStateException when the game is over,", this::valueWhenOver);
        sentences.test(promise, "or more than 12 squares are empty.", this::valueOfTooManyEmpty);
    }

    private void valueOf() {
        String promise = "Promise 11: valueOf";
        sentences.test(promise, "The value, if the next drop has to be in a column", this::allColumns);
        sentences.test(promise, "(n counts that drop).", this::thatDropCounts);
        sentences.test(promise, "IllegalArgumentException when there is no such column;", this::valueOfNoColumn);
        sentences.test(promise, "IllegalStateException when the game is over,", this::valueOfWhenOver);
        sentences.test(promise, "more than 12 squares are empty,", this::valueOfColumnsTooManyEmpty);
        sentences.test(promise, "or that column has none.", this::valueOfFullColumn);
    }

    private void best() {
        String promise = "Promise 12: best";
        sentences.test(promise, "The least column whose valueOf is as good as any.", this::allBests);
        sentences.test(promise, "IllegalStateException when the game is over,", this::bestWhenOver);
        sentences.test(promise, "or more than 12 squares are empty.", this::bestOfTooManyEmpty);
    }

    private void values(Worth[] some) {
        for (Worth worth : some) {
            check.same(worth.what() + "value()", worth.game().value(), worth.value);
        }
    }

    private void bests(Worth[] some) {
        for (Worth worth : some) {
            check.same(worth.what() + "best()", worth.game().best(), worth.best);
            check.same(worth.what() + "value()", worth.game().value(), worth.value);
        }
    }

    private void columns(Worth worth) {
        DropFour game = worth.game();
        check.same(worth.what() + "columns in the table", worth.ofColumns.length, worth.w);
        for (int i = 0; i < worth.w; i++) {
            int column = i;
            Object due = worth.ofColumns[i] == FULL ? "throws.IllegalStateException" : worth.ofColumns[i];
            check.same(worth.what() + "valueOf(" + i + ")", Check.outcome(() -> game.valueOf(column)), due);
        }
    }

    private void allValues() {
        for (Worth[] some : ALL) {
            values(some);
        }
        for (Worth[] some : ALL) {
            for (Worth worth : some) {
                valueAfterOtherCalls(worth);
            }
        }
    }

    /** What was asked and dropped before, in whatever order, does not colour the answer. */
    private void valueAfterOtherCalls(Worth worth) {
        DropFour game = worth.game();
        check.same(worth.what() + "best() first", game.best(), worth.best);
        check.same(worth.what() + "value() after best()", game.value(), worth.value);
        for (int column = worth.w - 1; column >= 0; column--) {
            if (worth.ofColumns[column] != FULL) {
                game.drop(column);
                Check.outcome(game::best);
                Check.outcome(game::value);
                game.back();
                check.same(worth.what() + "valueOf(" + column + ") after it was tried",
                        game.valueOf(column), worth.ofColumns[column]);
            }
        }
        check.same(worth.what() + "value() at last", game.value(), worth.value);
        check.same(worth.what() + "best() at last", game.best(), worth.best);
    }

    private void valueWhenOver() {
        for (Position over : Position.OVER) {
            DropFour game = over.game();
            check.state(over.what() + ": value()", game::value);
            game.back();
            boolean few = game.empty() <= 12;
            check.same(over.what() + ", after back(): value() answers", isNumber(Check.outcome(game::value)), few);
        }
    }

    private static boolean isNumber(Object outcome) {
        return outcome instanceof Integer;
    }

    private void valueOfTooManyEmpty() {
        for (Position many : TOO_MANY_EMPTY) {
            check.state(many.what() + ": value()", many.game()::value);
        }
        DropFour game = Check.game(5, 3, "11");
        check.state("13 squares empty", game::value);
        game.drop(2);
        check.same("12 squares empty", game.value(), 0);
        game.back();
        check.state("13 squares empty again", game::value);
        check.same("12 squares empty, a new board", new DropFour(3, 4).value(), 0);
        check.same("12 squares empty, a loss", Check.game(4, 4, "1023").value(), -12);
        check.same("9 squares empty, the smallest board", new DropFour(3, 3).value(), 0);
    }

    private void allColumns() {
        for (Worth[] some : ALL) {
            for (Worth worth : some) {
                columns(worth);
            }
        }
    }

    /** What a column is worth is one drop more than what comes after it, for the other one. */
    private void thatDropCounts() {
        check.same("a drop that wins at once", Check.game(4, 4, "001122").valueOf(3), 1);
        check.same("the last square, which wins", Check.game(4, 3, "10012021323").valueOf(3), 1);
        check.same("the last square, which does not", Check.game(4, 3, "01230123012").valueOf(3), 0);
        check.same("a drop that lets the other one win at once", Check.game(5, 3, "11223").valueOf(0), -2);
        for (Worth[] some : ALL) {
            for (Worth worth : some) {
                afterEachColumn(worth);
            }
        }
    }

    private void afterEachColumn(Worth worth) {
        DropFour game = worth.game();
        for (int column = 0; column < worth.w; column++) {
            int value = worth.ofColumns[column];
            if (value != FULL && value != 1) {
                game.drop(column);
                int due = value > 0 ? 1 - value : value < 0 ? -value - 1 : 0;
                Object after = game.winner() == DropFour.DRAW ? 0 : Check.outcome(game::value);
                check.same(worth.what() + "value() after drop(" + column + ")", after, due);
                game.back();
            }
        }
    }

    private void valueOfNoColumn() {
        for (Worth worth : new Worth[] {WINS[0], DRAWS[0], DRAWS[1], DRAWS[4], LOSSES[1]}) {
            DropFour game = worth.game();
            for (int column : new int[] {-1, worth.w, worth.w + 1, -64, 64, Integer.MIN_VALUE, Integer.MAX_VALUE}) {
                check.argument(worth.what() + "valueOf(" + column + ")", () -> game.valueOf(column));
            }
            columns(worth);
        }
    }

    private void valueOfWhenOver() {
        for (Position over : Position.OVER) {
            DropFour game = over.game();
            for (int i = 0; i < over.w(); i++) {
                int column = i;
                check.state(over.what() + ": valueOf(" + i + ")", () -> game.valueOf(column));
            }
        }
    }

    private void valueOfColumnsTooManyEmpty() {
        for (Position many : TOO_MANY_EMPTY) {
            DropFour game = many.game();
            for (int i = 0; i < many.w(); i++) {
                int column = i;
                check.state(many.what() + ": valueOf(" + i + ")", () -> game.valueOf(column));
            }
        }
        DropFour game = Check.game(5, 3, "112");
        check.same("12 squares empty: valueOf(1)", game.valueOf(1), -4);
        game.back();
        check.state("13 squares empty: valueOf(1)", () -> game.valueOf(1));
    }

    private void valueOfFullColumn() {
        for (int full = 0; full < 4; full++) {
            int column = full;
            DropFour game = Check.game(4, 3, "" + full + full + full);
            for (int other = 0; other < 4; other++) {
                if (other != full) {
                    check.same(full + " is full: valueOf(" + other + ") answers", game.valueOf(other) <= 9, true);
                }
            }
            check.state(full + " is full: valueOf(" + full + ")", () -> game.valueOf(column));
            game.back();
            check.same(full + " has one square: valueOf(" + full + ") answers", game.valueOf(full) <= 10, true);
        }
    }

    private void allBests() {
        for (Worth[] some : ALL) {
            bests(some);
        }
        for (int full = 0; full < 3; full++) {
            DropFour game = Check.game(3, 4, "" + full + full + full + full);
            check.same("all draw, " + full + " is full: best()", game.best(), full == 0 ? 1 : 0);
        }
        check.same("one column has room: best()", Check.game(4, 3, "01230123012").best(), 3);
    }

    private void bestWhenOver() {
        for (Position over : Position.OVER) {
            DropFour game = over.game();
            check.state(over.what() + ": best()", game::best);
        }
    }

    private void bestOfTooManyEmpty() {
        for (Position many : TOO_MANY_EMPTY) {
            check.state(many.what() + ": best()", many.game()::best);
        }
        DropFour game = Check.game(5, 3, "112");
        check.same("12 squares empty: best()", game.best(), 0);
        game.back();
        check.state("13 squares empty: best()", game::best);
    }
}
