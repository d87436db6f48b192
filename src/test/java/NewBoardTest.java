/** Promise 1, and what the other calls answer on an empty board. */
public final class NewBoardTest {
    // Asked for, and what it is brought to.
    private static final int[][] SIZES = {
        {3, 3, 3, 3}, {7, 6, 7, 6}, {8, 7, 8, 7}, {9, 6, 9, 6}, {9, 3, 9, 3}, {3, 7, 3, 7},
        {2, 3, 3, 3}, {3, 2, 3, 3}, {0, 0, 3, 3}, {-1, -1, 3, 3}, {2, 8, 3, 7}, {8, 8, 8, 7},
        {9, 7, 9, 6}, {10, 7, 9, 6}, {10, 6, 9, 6}, {10, 2, 9, 3}, {4, 100, 4, 7},
        {Integer.MIN_VALUE, Integer.MAX_VALUE, 3, 7}, {Integer.MAX_VALUE, Integer.MIN_VALUE, 9, 3},
        {Integer.MAX_VALUE, Integer.MAX_VALUE, 9, 6}, {Integer.MIN_VALUE, Integer.MIN_VALUE, 3, 3},
    };

    private final Check check = new Check();

    public static void main(String[] args) {
        new NewBoardTest().all();
    }

    private void all() {
        for (int[] size : SIZES) {
            isNew(size[0], size[1], size[2], size[3]);
        }
        for (int w = 3; w <= 9; w++) {
            for (int h = 3; h <= (w == 9 ? 6 : 7); h++) {
                isNew(w, h, w, h);
            }
        }
        check.end("NewBoardTest");
    }

    private void isNew(int w, int h, int columns, int rows) {
        DropFour game = new DropFour(w, h);
        String name = "new DropFour(" + w + ", " + h + ") ";
        check.same(name + "empty()", game.empty(), columns * rows);
        check.same(name + "turn()", game.turn(), 0);
        check.same(name + "winner()", game.winner(), DropFour.NONE);
        for (int column = 0; column < columns; column++) {
            for (int row = 0; row < rows; row++) {
                check.same(name + "at(" + column + ", " + row + ")", game.at(column, row), DropFour.NONE);
            }
        }
        check.bounds(name + "at(" + columns + ", 0)", () -> game.at(columns, 0));
        check.bounds(name + "at(0, " + rows + ")", () -> game.at(0, rows));
        check.state(name + "back()", game::back);
        for (int player = 0; player < 2; player++) {
            check.same(name + "open(" + player + ")", game.open(player), linesOf(columns, rows));
            check.same(name + "threats(" + player + ")", game.threats(player), 0);
        }
        check.argument(name + "drop(" + columns + ")", () -> game.drop(columns));
        check.same(name + "drop in the last column", game.drop(columns - 1), 0);
    }

    private static int linesOf(int columns, int rows) {
        int right = Math.max(0, columns - 3);
        int up = Math.max(0, rows - 3);
        return right * rows + columns * up + 2 * right * up;
    }
}
