import java.util.ArrayList;
import java.util.Arrays;
import java.util.HashMap;
import java.util.List;
import java.util.Map;

/** The document's words in their plainest form, slow and without tricks, to compare with. */
final class PlainGame {
    static final int NONE = -1;
    static final int DRAW = 2;

    final int w;
    final int h;
    private final int[][] board;
    private final List<int[][]> lines = new ArrayList<>();
    private final List<Integer> drops = new ArrayList<>();
    private final Map<String, Integer> values = new HashMap<>();

    PlainGame(int askedW, int askedH) {
        w = askedW < 3 ? 3 : askedW > 9 ? 9 : askedW;
        int most = w == 9 ? 6 : 7;
        h = askedH < 3 ? 3 : askedH > most ? most : askedH;
        board = new int[w][h];
        for (int[] column : board) {
            Arrays.fill(column, NONE);
        }
        for (int c = 0; c < w; c++) {
            for (int r = 0; r < h; r++) {
                addLine(c, r, 1, 0);
                addLine(c, r, 0, 1);
                addLine(c, r, 1, 1);
                addLine(c, r, 1, -1);
            }
        }
    }

    private void addLine(int c, int r, int right, int up) {
        int lastC = c + 3 * right;
        int lastR = r + 3 * up;
        if (lastC < w && lastR >= 0 && lastR < h) {
            int[][] line = new int[4][];
            for (int i = 0; i < 4; i++) {
                line[i] = new int[] {c + i * right, r + i * up};
            }
            lines.add(line);
        }
    }

    private int stonesIn(int[][] line, int player) {
        int stones = 0;
        for (int[] square : line) {
            if (board[square[0]][square[1]] == player) {
                stones++;
            }
        }
        return stones;
    }

    int height(int column) {
        int height = 0;
        while (height < h && board[column][height] != NONE) {
            height++;
        }
        return height;
    }

    int drop(int column) {
        if (column < 0 || column >= w) {
            throw new IllegalArgumentException();
        }
        if (winner() != NONE || height(column) == h) {
            throw new IllegalStateException();
        }
        int row = height(column);
        board[column][row] = turn();
        drops.add(column);
        return row;
    }

    int back() {
        if (drops.isEmpty()) {
            throw new IllegalStateException();
        }
        int column = drops.remove(drops.size() - 1);
        board[column][height(column) - 1] = NONE;
        return column;
    }

    int turn() {
        return drops.size() % 2;
    }

    int winner() {
        for (int[][] line : lines) {
            for (int player = 0; player < 2; player++) {
                if (stonesIn(line, player) == 4) {
                    return player;
                }
            }
        }
        return empty() == 0 ? DRAW : NONE;
    }

    int at(int column, int row) {
        if (column < 0 || column >= w || row < 0 || row >= h) {
            throw new IndexOutOfBoundsException();
        }
        return board[column][row];
    }

    int empty() {
        return w * h - drops.size();
    }

    int open(int player) {
        checkPlayer(player);
        int open = 0;
        for (int[][] line : lines) {
            if (stonesIn(line, 1 - player) == 0) {
                open++;
            }
        }
        return open;
    }

    int threats(int player) {
        checkPlayer(player);
        boolean[][] threat = new boolean[w][h];
        int threats = 0;
        for (int[][] line : lines) {
            if (stonesIn(line, player) == 3) {
                for (int[] square : line) {
                    if (board[square[0]][square[1]] == NONE && !threat[square[0]][square[1]]) {
                        threat[square[0]][square[1]] = true;
                        threats++;
                    }
                }
            }
        }
        return threats;
    }

    private static void checkPlayer(int player) {
        if (player != 0 && player != 1) {
            throw new IllegalArgumentException();
        }
    }

    int value() {
        checkFew();
        return valueNow();
    }

    int valueOf(int column) {
        if (column < 0 || column >= w) {
            throw new IllegalArgumentException();
        }
        checkFew();
        if (height(column) == h) {
            throw new IllegalStateException();
        }
        return valueAfter(column);
    }

    int best() {
        checkFew();
        int best = NONE;
        for (int column = 0; column < w; column++) {
            if (height(column) < h && (best == NONE || better(valueAfter(column), valueAfter(best)))) {
                best = column;
            }
        }
        return best;
    }

    private void checkFew() {
        if (winner() != NONE || empty() > 12) {
            throw new IllegalStateException();
        }
    }

    private int valueNow() {
        String key = Arrays.deepToString(board);
        Integer known = values.get(key);
        if (known != null) {
            return known;
        }
        boolean any = false;
        int best = 0;
        for (int column = 0; column < w; column++) {
            if (height(column) < h) {
                int value = valueAfter(column);
                if (!any || better(value, best)) {
                    best = value;
                }
                any = true;
            }
        }
        values.put(key, best);
        return best;
    }

    private int valueAfter(int column) {
        int mover = turn();
        drop(column);
        int winner = winner();
        int value = 0;
        if (winner == mover) {
            value = 1;
        } else if (winner == NONE) {
            int next = valueNow();
            value = next > 0 ? -(next + 1) : next < 0 ? 1 - next : 0;
        }
        back();
        return value;
    }

    private static boolean better(int a, int b) {
        return rank(a) > rank(b);
    }

    private static int rank(int value) {
        return value > 0 ? 1000 - value : value < 0 ? -1000 - value : 0;
    }

    boolean beats() {
        if (winner() != NONE || empty() > 30) {
            throw new IllegalStateException();
        }
        for (int column = 0; column < w; column++) {
            if ((h - height(column)) % 2 != 0) {
                throw new IllegalStateException();
            }
        }
        return leaderWins(turn(), new HashMap<>());
    }

    private boolean leaderWins(int leader, Map<String, Boolean> seen) {
        String key = Arrays.deepToString(board);
        if (seen.containsKey(key)) {
            return seen.get(key);
        }
        boolean wins = false;
        for (int column = 0; column < w && !wins; column++) {
            if (height(column) < h) {
                drop(column);
                if (winner() == leader) {
                    wins = true;
                } else {
                    drop(column);
                    wins = winner() == NONE && leaderWins(leader, seen);
                    back();
                }
                back();
            }
        }
        seen.put(key, wins);
        return wins;
    }
}
