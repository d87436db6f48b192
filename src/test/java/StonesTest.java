/** Promises 2 to 7: drop, back, turn, winner, at, empty. */
public final class StonesTest {
    private static final int NONE = DropFour.NONE;
    private static final int[] NO_COLUMNS = {-1, 7, 8, 64, -64, Integer.MIN_VALUE, Integer.MAX_VALUE};

    private final Check check = new Check();

    public static void main(String[] args) {
        new StonesTest().all();
    }

    private void all() {
        dropping();
        wrongDrops();
        takingBack();
        winning();
        noLineAroundTheEdge();
        drawing();
        looking();
        fillingTheLargest(8, 7);
        fillingTheLargest(9, 6);
        check.end("StonesTest");
    }

    private void dropping() {
        DropFour game = new DropFour(7, 6);
        for (int row = 0; row < 6; row++) {
            check.same("turn() before stone " + row, game.turn(), row % 2);
            check.same("drop(2)", game.drop(2), row);
            check.same("at(2, " + row + ")", game.at(2, row), row % 2);
            check.same("empty()", game.empty(), 41 - row);
        }
        check.same("drop(3)", game.drop(3), 0);
        check.same("at(3, 0)", game.at(3, 0), 0);
        check.same("at(1, 0)", game.at(1, 0), NONE);
    }

    private void wrongDrops() {
        DropFour game = Check.game(7, 6, "222222");
        String before = Check.sight(game, 7, 6);
        for (int column : NO_COLUMNS) {
            check.argument("drop(" + column + ")", () -> game.drop(column));
        }
        check.state("drop in a full column", () -> game.drop(2));
        check.same("a throwing drop changes nothing", Check.sight(game, 7, 6), before);

        DropFour over = Check.game(7, 6, "0010203");
        String end = Check.sight(over, 7, 6);
        check.same("winner()", over.winner(), 0);
        check.state("drop when the game is over", () -> over.drop(6));
        for (int column : NO_COLUMNS) {
            check.argument("drop(" + column + ") when the game is over", () -> over.drop(column));
        }
        check.same("a throwing drop changes nothing", Check.sight(over, 7, 6), end);
    }

    private void takingBack() {
        DropFour game = new DropFour(5, 4);
        check.state("back() at first", game::back);
        String start = Check.sight(game, 5, 4);
        Check.play(game, "3304");
        String before = Check.sight(game, 5, 4);
        game.drop(1);
        check.same("back()", game.back(), 1);
        check.same("all as before", Check.sight(game, 5, 4), before);
        check.same("back()", game.back(), 4);
        check.same("turn()", game.turn(), 1);
        check.same("back()", game.back(), 0);
        check.same("back()", game.back(), 3);
        check.same("at(3, 0)", game.at(3, 0), 0);
        check.same("at(3, 1)", game.at(3, 1), NONE);
        check.same("back()", game.back(), 3);
        check.same("all as at first", Check.sight(game, 5, 4), start);
        check.state("back() at last", game::back);
        check.same("a throwing back changes nothing", Check.sight(game, 5, 4), start);
        check.same("drop after it", game.drop(2), 0);
        check.same("whose stone that is", game.at(2, 0), 0);

        DropFour won = Check.game(7, 6, "0010203");
        check.same("back() takes the winning stone", won.back(), 3);
        check.same("winner() after it", won.winner(), NONE);
        check.same("turn() after it", won.turn(), 0);
        check.same("drop(6) after it", won.drop(6), 0);
    }

    private void winning() {
        won("a row", 7, 6, "0010203", 0);
        won("a row closed in the middle", 7, 6, "3020504", 0);
        won("a row at the right edge of the widest board", 9, 6, "8070605", 0);
        won("a row on top", 4, 3, "100120213233", 1);
        won("a column", 7, 6, "0101010", 0);
        won("the highest four of the last column", 8, 7, "7777070717", 1);
        won("the highest four of the last column of the widest board", 9, 6, "88081808", 1);
        won("a diagonal up", 7, 6, "01122323363", 0);
        won("a diagonal down", 7, 6, "65544343303", 0);
        DropFour game = Check.game(7, 6, "01010");
        check.same("turn() before the win", game.turn(), 1);
        check.same("winner() before the win", game.winner(), NONE);
        Check.play(game, "20");
        check.same("turn() after the win, as if the game were not over", game.turn(), 1);
    }

    private void won(String what, int w, int h, String columns, int player) {
        int last = columns.length() - 1;
        DropFour game = Check.game(w, h, columns.substring(0, last));
        check.same(what + ": winner() before", game.winner(), NONE);
        Check.play(game, columns.substring(last));
        check.same(what + ": winner()", game.winner(), player);
        check.same(what + ": turn()", game.turn(), 1 - player);
    }

    private void noLineAroundTheEdge() {
        DropFour game = Check.game(4, 3, "20203031");
        check.same("a whole column of three and the next one's bottom: winner()", game.winner(), NONE);
        check.same("threats(1)", game.threats(1), 0);
        DropFour threeWide = Check.game(3, 3, "012012012");
        check.same("a full board without lines: winner()", threeWide.winner(), DropFour.DRAW);
    }

    private void drawing() {
        DropFour game = Check.game(4, 3, "01230123012");
        check.same("winner() with one square empty", game.winner(), NONE);
        game.drop(3);
        check.same("winner() of a full board", game.winner(), DropFour.DRAW);
        check.same("empty()", game.empty(), 0);
        check.same("turn()", game.turn(), 0);
        check.state("drop on a full board", () -> game.drop(0));
        check.argument("drop(4) on a full board", () -> game.drop(4));
        check.same("back()", game.back(), 3);
        check.same("winner() after back()", game.winner(), NONE);

        DropFour last = Check.game(4, 3, "10012021323");
        check.same("winner() before the last square", last.winner(), NONE);
        last.drop(3);
        check.same("empty()", last.empty(), 0);
        check.same("winner() when the last stone wins", last.winner(), 1);
    }

    private void looking() {
        DropFour game = Check.game(7, 6, "33");
        check.same("at(3, 0)", game.at(3, 0), 0);
        check.same("at(3, 1)", game.at(3, 1), 1);
        check.same("at(3, 2)", game.at(3, 2), NONE);
        for (int column : NO_COLUMNS) {
            check.bounds("at(" + column + ", 0)", () -> game.at(column, 0));
        }
        for (int row : new int[] {-1, 6, 7, 64, Integer.MIN_VALUE, Integer.MAX_VALUE}) {
            check.bounds("at(0, " + row + ")", () -> game.at(0, row));
            check.bounds("at(-1, " + row + ")", () -> game.at(-1, row));
        }
    }

    /** A full board without a line, found by trying. */
    private void fillingTheLargest(int columns, int rows) {
        DropFour game = new DropFour(columns, rows);
        PlainGame plain = new PlainGame(columns, rows);
        check.same("the largest board can be filled", filled(game, plain, new int[] {200000}), true);
        check.same("winner() of the full board", game.winner(), DropFour.DRAW);
        for (int column = 0; column < columns; column++) {
            int full = column;
            check.state("drop(" + column + ")", () -> game.drop(full));
            for (int row = 0; row < rows; row++) {
                check.same("at(" + column + ", " + row + ")", game.at(column, row), plain.at(column, row));
            }
        }
        for (int stones = columns * rows; stones > 0; stones--) {
            check.same("back()", game.back(), plain.back());
        }
        check.same("empty() after all", game.empty(), columns * rows);
    }

    private static boolean filled(DropFour game, PlainGame plain, int[] tries) {
        for (int column = 0; column < plain.w && tries[0] > 0; column++) {
            if (plain.height(column) < plain.h) {
                tries[0]--;
                game.drop(column);
                plain.drop(column);
                int winner = plain.winner();
                if (winner == DropFour.DRAW || winner == NONE && filled(game, plain, tries)) {
                    return true;
                }
                game.back();
                plain.back();
            }
        }
        return false;
    }
}
