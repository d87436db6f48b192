import java.util.ArrayList;
import java.util.HashSet;
import java.util.List;
import java.util.Set;
import java.util.TreeSet;

/** The lines of a board, and sets of four squares that only look like lines when an edge is forgotten. */
final class LineSquares {
    private static final int[][] DIRECTIONS = {{1, 0}, {0, 1}, {1, 1}, {1, -1}};

    private LineSquares() {
    }

    static List<int[][]> lines(int w, int h) {
        List<int[][]> lines = new ArrayList<>();
        for (int[] direction : DIRECTIONS) {
            for (int square = 0; square < w * h; square++) {
                int[][] line = new int[4][];
                for (int i = 0; i < 4; i++) {
                    line[i] = new int[] {square / h + i * direction[0], square % h + i * direction[1]};
                }
                if (line[3][0] < w && line[3][1] >= 0 && line[3][1] < h) {
                    lines.add(line);
                }
            }
        }
        return lines;
    }

    /** Four squares that would be next to one another if the board's edges were joined, in several ways. */
    static List<int[][]> wrappedLines(int w, int h) {
        Set<String> seen = new HashSet<>();
        for (int[][] line : lines(w, h)) {
            seen.add(nameOf(line));
        }
        List<int[][]> wrapped = new ArrayList<>();
        for (int[][] four : joinedFours(w, h)) {
            if (seen.add(nameOf(four)) && nameOf(four).split(",").length == 4) {
                wrapped.add(four);
            }
        }
        return wrapped;
    }

    private static List<int[][]> joinedFours(int w, int h) {
        List<int[][]> fours = new ArrayList<>();
        for (int square = 0; square < w * h; square++) {
            for (int[] direction : DIRECTIONS) {
                fours.add(onRing(w, h, square, direction));
            }
            for (int step : new int[] {1, h - 1, h, h + 1}) {
                addCounted(fours, w, h, square, step, true);
            }
            for (int step : new int[] {1, w - 1, w, w + 1}) {
                addCounted(fours, w, h, square, step, false);
            }
        }
        return fours;
    }

    /** Right of the last column comes the first one, above the highest row the lowest one. */
    private static int[][] onRing(int w, int h, int square, int[] direction) {
        int[][] four = new int[4][];
        for (int i = 0; i < 4; i++) {
            four[i] = new int[] {(square / h + i * direction[0]) % w, (square % h + i * direction[1] + 3 * h) % h};
        }
        return four;
    }

    /** The squares are counted through, column by column or row by row, each going on into the next one. */
    private static void addCounted(List<int[][]> fours, int w, int h, int square, int step, boolean byColumn) {
        if (square + 3 * step < w * h) {
            int[][] four = new int[4][];
            for (int i = 0; i < 4; i++) {
                int number = square + i * step;
                four[i] = byColumn ? new int[] {number / h, number % h} : new int[] {number % w, number / w};
            }
            fours.add(four);
        }
    }

    static String nameOf(int[][] four) {
        Set<String> squares = new TreeSet<>();
        for (int[] square : four) {
            squares.add(square[0] + "/" + square[1]);
        }
        return String.join(",", squares);
    }
}
