import java.util.Random;

/** Following: the term, and promise 13. */
final class FollowingSentences {
    private final Sentences sentences;
    private final Check check;

    FollowingSentences(Sentences sentences) {
        this.sentences = sentences;
        check = sentences.check;
    }

    void all() {
        sentences.test("Terms", "FOLLOWING, when each column has an even number of empty squares:", this::evenColumns);
        sentences.test("Terms", "the one whose turn it is (the LEADER) drops,", this::leaderIsNext);
        sentences.test("Terms", "and each time, unless the game is over then, the other one (the FOLLOWER) drops in the "
                + "same column.", this::followerAnswers);
        String promise = "Promise 13: beats";
        sentences.test(promise, "Whether the leader can win, in some order of its drops, if the other one follows.",
                this::someOrder);
        sentences.test(promise, "IllegalStateException when the game is over,", this::beatsWhenOver);
        sentences.test(promise, "more than 30 squares are empty,", this::beatsOfTooManyEmpty);
        sentences.test(promise, "or some column has an odd number of them.", this::oddColumns);
    }

    private void beats(String what, int w, int h, String columns, boolean due) {
        check.same(what + ": beats()", Check.outcome(Check.game(w, h, columns)::beats), due);
    }

    private void refused(String what, int w, int h, String columns) {
        check.state(what + ": beats()", Check.game(w, h, columns)::beats);
    }

    /** None is an even number too. */
    private void evenColumns() {
        beats("every column has four", 4, 4, "", true);
        beats("a full column has none", 4, 4, "0000", true);
        beats("a full column, no line for the leader", 3, 4, "1111", false);
        beats("two full columns", 4, 3, "30330012", true);
        beats("two full columns, no line for the leader", 4, 3, "32323210", false);
        beats("one column has two, the others none", 4, 3, "3233221011", true);
        beats("one column has two, the others none, no line", 4, 3, "0102203121", false);
        beats("eight of nine columns are full", 9, 3, "7520741110782435885203463", true);
        beats("eight of nine columns are full, no line", 9, 3, "1325251502306068771346887", false);
    }

    private void leaderIsNext() {
        beats("player 0 leads and wins", 5, 4, "", true);
        beats("player 0 leads and does not win", 3, 4, "", false);
        beats("player 1 leads and wins", 5, 3, "43102", true);
        beats("player 1 leads and does not win", 3, 5, "210", false);
        // Were the other one the leader, each of these would be answered the other way round.
        beats("player 0 leads and wins, player 1 would not", 4, 4, "0000", true);
        beats("player 0 leads and does not win, player 1 would", 4, 3, "000123", false);
        beats("player 1 leads and wins, player 0 would not", 5, 3, "1201134", true);
        beats("player 1 leads and does not win, player 0 would", 3, 7, "01020", false);
    }

    private void followerAnswers() {
        beats("the drop that wins is not answered, though the answer would be a line", 4, 4, "001122", true);
        beats("the same in a column", 4, 5, "313032100221022011", true);
        beats("the same in a column of the largest board", 8, 7, "44503246444405356016755556617166700003", true);
        beats("the follower's line comes below the leader's", 4, 6, "000202", false);
        beats("an answer to the last drop but one is a line", 7, 4, "6616210341543133002650", false);
        beats("stones fall in turn in each column, so no column alone wins", 3, 4, "", false);
        beats("but where three are there one drop is enough", 3, 7, "1010102", true);
    }

    /** Many positions of small boards, against each order tried one by one. */
    private void someOrder() {
        beats("the lowest row, in any order", 4, 4, "", true);
        beats("no line for the leader", 4, 4, "101110", false);
        for (String columns : FollowedLines.OF_8_BY_7) {
            beats("8 by 7, one line is left, " + columns, 8, 7, columns, true);
        }
        for (String columns : FollowedLines.OF_9_BY_6) {
            beats("9 by 6, one line is left, " + columns, 9, 6, columns, true);
        }
        int answers = 0;
        for (int[] size : new int[][] {{3, 4}, {4, 3}, {4, 4}, {5, 3}, {5, 4}, {3, 7}, {6, 4}, {9, 3}}) {
            for (int seed = 0; seed < 300; seed++) {
                answers += compared(size[0], size[1], seed);
            }
        }
        check.same("positions compared are many", answers > 2000, true);
    }

    /** A game with drops at random, asked wherever it can be followed. */
    private int compared(int w, int h, int seed) {
        Random random = new Random(seed);
        DropFour game = new DropFour(w, h);
        PlainGame plain = new PlainGame(w, h);
        int answers = 0;
        StringBuilder drops = new StringBuilder();
        while (plain.winner() == PlainGame.NONE) {
            Object due = Check.outcome(plain::beats);
            check.same(w + " by " + h + " " + drops + ": beats()", Check.outcome(game::beats), due);
            answers += due instanceof Boolean ? 1 : 0;
            int column = random.nextInt(w);
            // Mostly one with an odd number of empty squares, so that following is often allowed.
            for (int i = 0; i < 9 && (plain.h - plain.height(column)) % 2 == 0; i++) {
                column = random.nextInt(w);
            }
            if (plain.height(column) < h) {
                plain.drop(column);
                game.drop(column);
                drops.append(column);
            }
        }
        return answers;
    }

    private void beatsWhenOver() {
        for (Position over : Position.OVER) {
            refused(over.what(), over.w(), over.h(), over.columns());
        }
        refused("won by 0, all columns even", 5, 3, "1431210");
        refused("won by 1, all columns even", 3, 6, "20101020");
        refused("won by 1, all columns even, one full", 3, 4, "10102020");
        refused("won with the last stone", 3, 4, "011200120212");
        refused("nobody has won, no square empty", 3, 4, "100102212102");
        refused("nobody has won, no square empty, 27 stones", 9, 3, "580511788056706613232324447");
    }

    private void beatsOfTooManyEmpty() {
        beats("30 squares, a new board", 5, 6, "", true);
        beats("30 squares, one pair has been dropped", 8, 4, "00", true);
        beats("30 squares, player 1 leads", 5, 7, "30142", true);
        beats("30 squares on the largest board", 8, 7, "41302565577117446162352153", true);
        beats("30 squares on the largest board, no win", 8, 7, "05463174524750355443703434", false);
        beats("30 squares on the widest board", 9, 6, "818166388038011658615414", true);
        beats("30 squares on the widest board, no win", 9, 6, "040184865155267222711577", false);
        refused("32 squares, a new board", 8, 4, "");
        refused("36 squares, a new board", 6, 6, "");
        refused("36 squares, the widest board", 9, 4, "");
        refused("42 squares, a new board", 7, 6, "");
        refused("54 squares, the widest board", 9, 6, "");
        refused("32 squares, one drop wins", 7, 6, "0011226655");
        refused("32 squares, player 1 leads", 7, 7, "21460355563613111");
        refused("32 squares on the largest board", 8, 7, "210534167136335536241241");
        refused("32 squares on the widest board", 9, 6, "6772642384308222206611");
        DropFour game = Check.game(8, 4, "00");
        game.back();
        game.back();
        check.state("32 squares after back()", game::beats);
    }

    private void oddColumns() {
        refused("one odd column, the first", 4, 4, "0");
        refused("one odd column, the last", 4, 4, "3");
        refused("the first and the last are odd", 4, 4, "03");
        refused("two odd columns between", 4, 4, "12");
        refused("all columns are odd", 4, 3, "");
        refused("all columns are odd, 30 squares", 6, 5, "");
        refused("all columns are odd, the smallest board", 3, 3, "");
        refused("only one column is even", 4, 3, "0");
        refused("one square is left", 4, 3, "01230123012");
        refused("one square is left in each", 3, 4, "012012012");
        refused("one drop wins, two columns are odd", 4, 4, "001120");
        beats("each column is even again", 4, 3, "0123", true);
    }
}
