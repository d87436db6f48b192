/**
 * Four in a line on boards of many sizes: stones that drop, lines that are open, squares that
 * threaten, what a position is worth when few squares are empty, and whether one who only follows
 * is beaten.
 */
public final class DropFour {
    public static final int NONE = -1;
    public static final int DRAW = 2;

    private static final int LEAST_SIDE = 3;
    private static final int MOST_COLUMNS = 9;
    private static final int MOST_ROWS = 7;
    private static final int MOST_ROWS_ON_THE_WIDEST = 6;
    private static final int MOST_EMPTY_TO_VALUE = 12;
    private static final int MOST_EMPTY_TO_FOLLOW = 30;

    private final Grid grid;
    private final Search search;
    private final Following following;
    private final long[] stones = new long[2];
    private final int[] heights;
    private final int[] history;
    private int count = 0;

    public DropFour(int w, int h) {
        int columns = between(w, MOST_COLUMNS);
        int rows = between(h, columns == MOST_COLUMNS ? MOST_ROWS_ON_THE_WIDEST : MOST_ROWS);
        grid = new Grid(columns, rows);
        search = new Search(grid);
        following = new Following(grid);
        heights = new int[columns];
        history = new int[columns * rows];
    }

    public int drop(int column) throws IllegalArgumentException, IllegalStateException {
        if (!isColumn(column)) {
            throw new IllegalArgumentException("no such column");
        }
        if (isOver() || isFull(column)) {
            throw new IllegalStateException("no stone can be dropped there");
        }
        int row = heights[column];
        stones[turn()] |= grid.square(column, row);
        heights[column]++;
        history[count] = column;
        count++;
        return row;
    }

    public int back() throws IllegalStateException {
        if (count == 0) {
            throw new IllegalStateException("no stone has been dropped");
        }
        count--;
        int column = history[count];
        heights[column]--;
        stones[turn()] &= ~grid.square(column, heights[column]);
        return column;
    }

    public int turn() {
        return count % 2;
    }

    public int winner() {
        if (grid.hasLine(stones[0])) {
            return 0;
        }
        if (grid.hasLine(stones[1])) {
            return 1;
        }
        return empty() == 0 ? DRAW : NONE;
    }

    public int at(int column, int row) throws IndexOutOfBoundsException {
        if (!isColumn(column) || row < 0 || row >= grid.rows) {
            throw new IndexOutOfBoundsException("no such square");
        }
        long square = grid.square(column, row);
        if ((stones[0] & square) != 0) {
            return 0;
        }
        return (stones[1] & square) != 0 ? 1 : NONE;
    }

    public int empty() {
        return history.length - count;
    }

    public int open(int player) throws IllegalArgumentException {
        if (!isPlayer(player)) {
            throw new IllegalArgumentException("no such player");
        }
        return grid.countLines(grid.squares & ~stones[1 - player]);
    }

    public int threats(int player) throws IllegalArgumentException {
        if (!isPlayer(player)) {
            throw new IllegalArgumentException("no such player");
        }
        return Long.bitCount(grid.threatSquares(stones[player], taken()));
    }

    public int value() throws IllegalStateException {
        if (!canBeValued()) {
            throw new IllegalStateException("the game is over, or too many squares are empty");
        }
        return inDrops(search.score(mine(), theirs(), empty(), -empty(), empty()));
    }

    public int valueOf(int column) throws IllegalArgumentException, IllegalStateException {
        if (!isColumn(column)) {
            throw new IllegalArgumentException("no such column");
        }
        if (!canBeValued() || isFull(column)) {
            throw new IllegalStateException("that drop cannot be valued");
        }
        return inDrops(scoreAbove(-empty(), column));
    }

    public int best() throws IllegalStateException {
        if (!canBeValued()) {
            throw new IllegalStateException("the game is over, or too many squares are empty");
        }
        int found = NONE;
        int foundScore = -empty() - 1;
        for (int column = 0; column < grid.columns; column++) {
            if (!isFull(column)) {
                int score = scoreAbove(foundScore, column);
                if (score > foundScore) {
                    found = column;
                    foundScore = score;
                }
            }
        }
        return found;
    }

    public boolean beats() throws IllegalStateException {
        if (isOver() || empty() > MOST_EMPTY_TO_FOLLOW || !canFollow()) {
            throw new IllegalStateException("no following from here");
        }
        return following.leaderWins(mine(), theirs());
    }

    private static int between(int side, int most) {
        return Math.max(LEAST_SIDE, Math.min(most, side));
    }

    private static boolean isPlayer(int player) {
        return player == 0 || player == 1;
    }

    private boolean isColumn(int column) {
        return column >= 0 && column < grid.columns;
    }

    private boolean isFull(int column) {
        return heights[column] >= grid.rows;
    }

    private boolean isOver() {
        return winner() != NONE;
    }

    private boolean canBeValued() {
        return empty() <= MOST_EMPTY_TO_VALUE && !isOver();
    }

    private boolean canFollow() {
        for (int column = 0; column < grid.columns; column++) {
            if ((grid.rows - heights[column]) % 2 != 0) {
                return false;
            }
        }
        return true;
    }

    private long mine() {
        return stones[turn()];
    }

    private long theirs() {
        return stones[1 - turn()];
    }

    private long taken() {
        return stones[0] | stones[1];
    }

    /** The score of a drop in a column that has room: exact above low, at most low otherwise. */
    private int scoreAbove(int low, int column) {
        long after = mine() | grid.square(column, heights[column]);
        if (grid.hasLine(after)) {
            return empty();
        }
        return -search.score(theirs(), after, empty() - 1, -empty(), -low);
    }

    /** Scores count the squares that stay empty; values count the drops up to the end. */
    private int inDrops(int score) {
        if (score == 0) {
            return 0;
        }
        int drops = empty() + 1 - Math.abs(score);
        return score > 0 ? drops : -drops;
    }

    /**
     * The board without its stones. A set of squares is the bits of a long, each column's from its
     * lowest row up, with one bit above it that is never set: so no line runs on from one column's
     * top to the next one's bottom. The largest boards (8 by 7, 9 by 6) need 64 and 63 bits.
     */
    private static final class Grid {
        private final int columns;
        private final int rows;
        private final long squares;
        private final long floor;
        private final int[] steps;
        private final long[] columnSquares;

        Grid(int columns, int rows) {
            this.columns = columns;
            this.rows = rows;
            steps = new int[] {1, rows, rows + 1, rows + 2};
            columnSquares = new long[columns];
            long bottoms = 0;
            long all = 0;
            for (int column = 0; column < columns; column++) {
                long bottom = 1L << (column * (rows + 1));
                columnSquares[column] = (bottom << rows) - bottom;
                bottoms |= bottom;
                all |= columnSquares[column];
            }
            floor = bottoms;
            squares = all;
        }

        long square(int column, int row) {
            return 1L << (column * (rows + 1) + row);
        }

        /** The squares that the next stone can come to, one in each column that has room. */
        long nextSquares(long taken) {
            return (taken + floor) & squares;
        }

        /** The lowest-numbered square of each line, in one direction, that lies whole in a set. */
        long lineStarts(long set, int step) {
            long pairs = set & (set >>> step);
            return pairs & (pairs >>> (2 * step));
        }

        boolean hasLine(long set) {
            for (int step : steps) {
                if (lineStarts(set, step) != 0) {
                    return true;
                }
            }
            return false;
        }

        int countLines(long set) {
            int lines = 0;
            for (int step : steps) {
                lines += Long.bitCount(lineStarts(set, step));
            }
            return lines;
        }

        /** The squares not taken that would complete a line of the given stones. */
        long threatSquares(long stones, long taken) {
            long found = 0;
            for (int step : steps) {
                found |= completing(stones, step);
            }
            return found & squares & ~taken;
        }

        /** The fourth square may be either end of its line or one of the two between. */
        private static long completing(long stones, int step) {
            long before = stones << step;
            long twoBefore = before & (stones << (2 * step));
            long behind = stones >>> step;
            long twoBehind = behind & (stones >>> (2 * step));
            return (twoBefore & (stones << (3 * step)))
                    | (twoBefore & behind)
                    | (before & twoBehind)
                    | (twoBehind & (stones >>> (3 * step)));
        }
    }

    /**
     * Finds what positions with few empty squares are worth. The SCORE of a position, for the one
     * whose turn it is, is one more than the squares that stay empty when it wins, the same below
     * zero when it loses, and 0 for a draw: so a greater score is always better, and a position
     * scores the same whatever drops led to it.
     */
    private static final class Search {
        private final Grid grid;
        private final Memory memory = new Memory();
        private final long[] middleFirst;

        Search(Grid grid) {
            this.grid = grid;
            middleFirst = new long[grid.columns];
            for (int i = 0; i < grid.columns; i++) {
                int aside = i % 2 == 0 ? i / 2 : -(i + 1) / 2;
                middleFirst[i] = grid.columnSquares[grid.columns / 2 + aside];
            }
        }

        /**
         * The score of a position that nobody has won, with so many squares left: exact between
         * low and high; at most low when it is not above low, at least high when not below high.
         */
        private int score(long mine, long theirs, int left, int low, int high) {
            if (left <= 0) {
                return 0;
            }
            long taken = mine | theirs;
            long next = grid.nextSquares(taken);
            if ((grid.threatSquares(mine, taken) & next) != 0) {
                return left;
            }
            long moves = safeMoves(next, grid.threatSquares(theirs, taken));
            if (moves == 0) {
                return 1 - left;
            }
            if (left <= 2) {
                return 0;
            }
            return remembered(mine, theirs, moves, left, low, high);
        }

        /** The drops after which the other one cannot win at once. */
        private static long safeMoves(long next, long threatened) {
            long forced = next & threatened;
            if (Long.bitCount(forced) > 1) {
                return 0;
            }
            long moves = forced == 0 ? next : forced;
            // A stone right below a threatened square lets the other one drop onto it.
            return moves & ~(threatened >>> 1);
        }

        private int remembered(long mine, long theirs, long moves, int left, int low, int high) {
            // In each column one bit on top of the stones, and mine below it: no two positions agree.
            long key = ((mine | theirs) + grid.floor) | mine;
            boolean known = memory.holds(key);
            int least = known ? memory.leastOf(key) : leastAtFirst(mine, left);
            int most = known ? memory.mostOf(key) : mostAtFirst(theirs, left);
            if (least >= high || least >= most) {
                return least;
            }
            if (most <= low) {
                return most;
            }
            int from = Math.max(low, least);
            int to = Math.min(high, most);
            int found = tried(mine, theirs, moves, left, from, to);
            memory.keep(key, found > from ? found : least, found < to ? found : most);
            return found;
        }

        /** After a safe move the other one cannot win before its second drop. */
        private int leastAtFirst(long mine, int left) {
            return grid.hasLine(grid.squares & ~mine) ? 3 - left : 0;
        }

        /** One who cannot win at once cannot win before its second drop. */
        private int mostAtFirst(long theirs, int left) {
            return grid.hasLine(grid.squares & ~theirs) ? left - 2 : 0;
        }

        private int tried(long mine, long theirs, long moves, int left, int from, int to) {
            int found = from;
            for (int i = 0; i < grid.columns && found < to; i++) {
                long move = moves & middleFirst[i];
                if (move != 0) {
                    int after = -score(theirs, mine | move, left - 1, -to, -found);
                    found = Math.max(found, after);
                }
            }
            return Math.min(found, to);
        }
    }

    /**
     * What is known of the scores of positions seen before, also in earlier calls. A newer position
     * takes the slot of an older one, so that the room it needs is fixed when it is made.
     */
    private static final class Memory {
        private static final int SLOTS = 1024;
        private static final int SHIFT = 54;
        private static final long SPREAD = 0x9E3779B97F4A7C15L;

        // No position has the key 0: a key has a bit in every column.
        private final long[] keys = new long[SLOTS];
        private final int[] least = new int[SLOTS];
        private final int[] most = new int[SLOTS];

        boolean holds(long key) {
            return keys[slotOf(key)] == key;
        }

        int leastOf(long key) {
            return least[slotOf(key)];
        }

        int mostOf(long key) {
            return most[slotOf(key)];
        }

        void keep(long key, int leastScore, int mostScore) {
            int slot = slotOf(key);
            keys[slot] = key;
            least[slot] = leastScore;
            most[slot] = mostScore;
        }

        /** The ten highest bits of the product: always below SLOTS. */
        private static int slotOf(long key) {
            return (int) ((key * SPREAD) >>> SHIFT);
        }
    }

    /**
     * Tells whether the leader wins against one who follows. Each empty square falls to the same
     * player in every order of the leader's drops; the order settles only whose line comes first.
     * So each line that the leader can fill is tried with the fewest drops that fill it.
     */
    private static final class Following {
        private static final int BITS = 64;

        private final Grid grid;

        Following(Grid grid) {
            this.grid = grid;
        }

        boolean leaderWins(long leader, long follower) {
            long leaderInTheEnd = leader;
            long followerInTheEnd = follower;
            for (int pair = 0; 2 * pair < grid.rows; pair++) {
                leaderInTheEnd |= grid.nextSquares(leaderInTheEnd | followerInTheEnd);
                followerInTheEnd |= grid.nextSquares(leaderInTheEnd | followerInTheEnd);
            }
            for (int step : grid.steps) {
                long starts = grid.lineStarts(leaderInTheEnd, step);
                for (int bit = 0; bit < BITS; bit++) {
                    long start = starts & (1L << bit);
                    long half = start | (start << step);
                    long wanted = (half | (half << (2 * step))) & ~leader;
                    if (wanted != 0 && comesFirst(wanted, follower, followerInTheEnd)) {
                        return true;
                    }
                }
            }
            return false;
        }

        /** Whether the leader can fill these squares before the follower has a line. */
        private boolean comesFirst(long wanted, long follower, long followerInTheEnd) {
            for (long column : grid.columnSquares) {
                long last = wanted & column;
                if (last != 0) {
                    long answers = followerInTheEnd & reached(wanted, last);
                    if (!grid.hasLine(follower | answers)) {
                        return true;
                    }
                }
            }
            return false;
        }

        /**
         * The squares that are filled when the leader has just filled the last of the wanted ones:
         * each other one has been answered. A column has one wanted square at most, as the leader
         * gets only every other square of it.
         */
        private long reached(long wanted, long last) {
            long filled = 0;
            for (long column : grid.columnSquares) {
                long square = wanted & column;
                if (square != 0) {
                    long top = square == last ? square : square << 1;
                    filled |= (top << 1) - (column & grid.floor);
                }
            }
            return filled;
        }
    }
}
