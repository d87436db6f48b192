/** Promises 8 and 9: open and threats. */
public final class LinesTest {
    private static final int[] NO_PLAYERS = {-1, 2, 3, Integer.MIN_VALUE, Integer.MAX_VALUE};

    private final Check check = new Check();

    public static void main(String[] args) {
        new LinesTest().all();
    }

    private void all() {
        opening();
        threatening();
        wrongPlayers();
        check.end("LinesTest");
    }

    private void opening() {
        open("a 7 by 6 board", 7, 6, "", 69, 69);
        open("a stone in the corner", 7, 6, "0", 69, 66);
        open("a stone in the middle of the lowest row", 7, 6, "3", 69, 62);
        open("one of each player", 7, 6, "33", 59, 62);
        open("a narrow board has columns alone", 3, 5, "0", 6, 5);
        open("a low board has rows alone", 5, 3, "2", 6, 4);
        open("a board without lines", 3, 3, "1", 0, 0);
        open("a line that is complete counts for its player", 4, 3, "0011223", 2, 2);
        open("the largest board", 8, 7, "", 107, 107);
        open("a full board", 4, 3, "012301230123", 0, 0);
        DropFour game = Check.game(7, 6, "3");
        game.back();
        check.same("open(1) after back()", game.open(1), 69);
    }

    private void open(String what, int w, int h, String columns, int of0, int of1) {
        DropFour game = Check.game(w, h, columns);
        check.same(what + ": open(0)", game.open(0), of0);
        check.same(what + ": open(1)", game.open(1), of1);
    }

    private void threatening() {
        threats("three in a row with room at both ends", 7, 6, "33445", 2, 0);
        threats("three at the left edge", 7, 6, "00112", 1, 0);
        threats("one end is taken", 7, 6, "334456", 1, 0);
        threats("a gap between", 7, 6, "00113", 1, 0);
        threats("the other gap", 7, 6, "00223", 1, 0);
        threats("two gaps of two lines", 7, 6, "0022334466", 2, 2);
        threats("a column", 7, 6, "01010", 1, 0);
        threats("a column without room", 5, 3, "01010", 0, 0);
        threats("the highest square of the last column", 8, 7, "777707071", 0, 1);
        threats("a diagonal whose square hangs free", 7, 6, "0112262", 1, 0);
        threats("three on a line of which one is the other's", 7, 6, "001122", 1, 1);
        threats("one square in two lines counts once", 7, 6, "1122335", 2, 2);
        threats("after the game is over", 7, 6, "1122334", 2, 2);
        threats("none on a full board", 4, 3, "012301230123", 0, 0);
    }

    private void threats(String what, int w, int h, String columns, int of0, int of1) {
        DropFour game = Check.game(w, h, columns);
        check.same(what + ": threats(0)", game.threats(0), of0);
        check.same(what + ": threats(1)", game.threats(1), of1);
    }

    private void wrongPlayers() {
        DropFour game = Check.game(7, 6, "0011");
        DropFour over = Check.game(7, 6, "0010203");
        String before = Check.sight(game, 7, 6);
        for (int player : NO_PLAYERS) {
            check.argument("open(" + player + ")", () -> game.open(player));
            check.argument("threats(" + player + ")", () -> game.threats(player));
            check.argument("open(" + player + ") when the game is over", () -> over.open(player));
            check.argument("threats(" + player + ") when the game is over", () -> over.threats(player));
        }
        check.same("nothing has changed", Check.sight(game, 7, 6), before);
    }
}
