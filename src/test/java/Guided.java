import java.util.Random;

/**
 * Looks for a game in which one player gets all of some wanted squares and no line is made before
 * (or none at all), by dropping at random with a seed that is always the same.
 */
final class Guided {
    private static final int TRIES = 400;
    private static final int[][] DIRECTIONS = {{1, 0}, {0, 1}, {1, 1}, {1, -1}};

    private final int w;
    private final int h;
    private final int[][] wanted;
    private final int player;
    private final boolean endsInLine;
    private final Random random;
    private int[][] board;
    private int[] heights;
    private StringBuilder drops;

    private Guided(int w, int h, int[][] wanted, int player, boolean endsInLine) {
        this.w = w;
        this.h = h;
        this.wanted = wanted;
        this.player = player;
        this.endsInLine = endsInLine;
        random = new Random(w * 100 + h * 10 + player);
    }

    /** The columns of such a game, the last stone coming to a wanted square; null when none was found. */
    static String game(int w, int h, int[][] wanted, int player, boolean endsInLine) {
        Guided guided = new Guided(w, h, wanted, player, endsInLine);
        for (int i = 0; i < TRIES; i++) {
            if (guided.tried()) {
                return guided.drops.toString();
            }
        }
        return null;
    }

    private boolean tried() {
        board = new int[w][h];
        heights = new int[w];
        drops = new StringBuilder();
        while (drops.length() < w * h) {
            int column = nextColumn(drops.length() % 2);
            if (column < 0) {
                return false;
            }
            board[column][heights[column]] = 1 + drops.length() % 2;
            heights[column]++;
            drops.append(column);
            if (wantedLeft() == 0) {
                return true;
            }
        }
        return false;
    }

    private int nextColumn(int mover) {
        int first = random.nextInt(w);
        for (int i = 0; i < w; i++) {
            int column = (first + i) % w;
            if (heights[column] < h && isAllowed(column, heights[column], mover)) {
                return column;
            }
        }
        return -1;
    }

    /** A wanted square is kept for its player; no line is made, but by the last wanted square. */
    private boolean isAllowed(int column, int row, int mover) {
        boolean isWanted = isWanted(column, row);
        if (isWanted && mover != player) {
            return false;
        }
        return isWanted && endsInLine && wantedLeft() == 1 || !makesLine(column, row, mover);
    }

    private boolean isWanted(int column, int row) {
        for (int[] square : wanted) {
            if (square[0] == column && square[1] == row) {
                return true;
            }
        }
        return false;
    }

    private int wantedLeft() {
        int left = 0;
        for (int[] square : wanted) {
            left += board[square[0]][square[1]] == 0 ? 1 : 0;
        }
        return left;
    }

    private boolean makesLine(int column, int row, int mover) {
        for (int[] direction : DIRECTIONS) {
            int stones = 1 + run(column, row, direction[0], direction[1], mover)
                    + run(column, row, -direction[0], -direction[1], mover);
            if (stones >= 4) {
                return true;
            }
        }
        return false;
    }

    private int run(int column, int row, int right, int up, int mover) {
        int stones = 0;
        for (int i = 1; i < 4 && has(column + i * right, row + i * up, mover); i++) {
            stones++;
        }
        return stones;
    }

    private boolean has(int column, int row, int mover) {
        return column >= 0 && column < w && row >= 0 && row < h && board[column][row] == 1 + mover;
    }
}
