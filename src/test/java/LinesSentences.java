/** Lines and what they make: the terms, and promises 5, 8 and 9. */
final class LinesSentences {
    private static final int NONE = DropFour.NONE;
    private static final int DRAW = DropFour.DRAW;
    private static final int[] NO_PLAYERS = {NONE, DRAW, 3, -2, 64, Integer.MIN_VALUE, Integer.MAX_VALUE};

    private final Sentences sentences;
    private final Check check;

    LinesSentences(Sentences sentences) {
        this.sentences = sentences;
        check = sentences.check;
    }

    void all() {
        terms();
        winners();
        players();
    }

    private void terms() {
        sentences.test("Terms", "A LINE is four squares next to one another in a row, a column or a diagonal.",
                this::linesEverywhere);
        sentences.test("Terms",
                "The game is OVER when all squares of some line have stones of one player, who has WON,", this::overByLine);
        sentences.test("Terms", "or when no square is empty.", this::overWhenFull);
        sentences.test("Terms", "A line is OPEN for a player when the other one has no stone in it.", this::openLines);
        sentences.test("Terms", "A THREAT of a player is an empty square that lies in a line whose three other squares "
                + "have stones of that player.", this::threatSquares);
    }

    private void winners() {
        String promise = "Promise 5: winner";
        sentences.test(promise, "Who has won;", this::whoHasWon);
        sentences.test(promise, "DRAW when no square is empty and nobody has;", this::draws);
        sentences.test(promise, "NONE when the game is not over.", this::nobodyYet);
    }

    private void players() {
        sentences.test("Promise 8: open", "How many lines are open for a player.", this::countsOfOpen);
        sentences.test("Promise 8: open", "IllegalArgumentException when there is no such player.", this::openOfNoPlayer);
        sentences.test("Promise 9: threats", "How many threats a player has.", this::countsOfThreats);
        sentences.test("Promise 9: threats", "IllegalArgumentException when there is no such player.",
                this::threatsOfNoPlayer);
    }

    /** Every line of every board wins for either player, and four squares that an edge parts do not. */
    private void linesEverywhere() {
        for (int w = 3; w <= 9; w++) {
            for (int h = 3; h <= (w == 9 ? 6 : 7); h++) {
                for (int player = 0; player < 2; player++) {
                    for (int[][] line : LineSquares.lines(w, h)) {
                        lineWins(w, h, line, player);
                    }
                    for (int[][] four : LineSquares.wrappedLines(w, h)) {
                        fourDoNotWin(w, h, four, player);
                    }
                }
            }
        }
    }

    private void lineWins(int w, int h, int[][] line, int player) {
        String what = w + " by " + h + ", player " + player + " on " + LineSquares.nameOf(line) + ": ";
        String columns = Guided.game(w, h, line, player, true);
        check.same(what + "a game is found", columns != null, canBeHad(w, h, line, player));
        if (columns != null) {
            int last = columns.length() - 1;
            DropFour game = Check.game(w, h, columns.substring(0, last));
            check.same(what + "winner() before the last stone", game.winner(), NONE);
            Check.play(game, columns.substring(last));
            check.same(what + "winner()", game.winner(), player);
            check.same(what + "open()", game.open(player) > 0, true);
        }
    }

    /** Of four columns: somebody else's is the first stone of the lowest row, or the last one of the highest. */
    private static boolean canBeHad(int w, int h, int[][] line, int player) {
        boolean isRow = line[0][1] == line[3][1];
        return w != 4 || !isRow || line[0][1] != (player == 0 ? h - 1 : 0);
    }

    private void fourDoNotWin(int w, int h, int[][] four, int player) {
        String columns = Guided.game(w, h, four, player, false);
        if (columns != null) {
            String what = w + " by " + h + ", player " + player + " on " + LineSquares.nameOf(four) + ": ";
            DropFour game = Check.game(w, h, columns);
            check.same(what + "winner()", game.winner(), columns.length() == w * h ? DRAW : NONE);
        }
    }

    private void overByLine() {
        isOver("four in a row", "0010203");
        isOver("player 1's four in a row", "60010203");
        isOver("four in a column", "0101010");
        isOver("five in a row, by the middle one", "001133442");
        isOver("seven in a row, by the middle one", "0011224455663");
        isNotOver("three in a row", "00112");
        isNotOver("four in a row of both players", "0123");
        isNotOver("four in a row with a gap", "0011334");
        isNotOver("three in a column", "01010");
    }

    private void isOver(String what, String columns) {
        DropFour game = Check.game(7, 6, columns);
        check.same(what + ": winner() is the one who dropped last", game.winner(), 1 - game.turn());
        for (int i = 0; i < 7; i++) {
            int column = i;
            check.state(what + ": drop(" + i + ")", () -> game.drop(column));
        }
        isNotOver(what + " without its last stone", columns.substring(0, columns.length() - 1));
    }

    private void isNotOver(String what, String columns) {
        for (int column = 0; column < 7; column++) {
            DropFour game = Check.game(7, 6, columns);
            check.same(what + ": winner()", game.winner(), NONE);
            check.same(what + ": drop(" + column + ")", game.drop(column) >= 0, true);
        }
    }

    private void overWhenFull() {
        for (Position full : new Position[] {Position.FULL_EVEN, Position.FULL_ODD}) {
            DropFour game = full.game();
            check.same(full.what() + ": winner() is neither player nor NONE", game.winner(), DRAW);
            check.state(full.what() + ": drop(0)", () -> game.drop(0));
            check.state(full.what() + ": value()", game::value);
            check.state(full.what() + ": best()", game::best);
            check.state(full.what() + ": beats()", game::beats);
            int column = game.back();
            check.same(full.what() + " but for one square: winner()", game.winner(), NONE);
            check.same(full.what() + " but for one square: value()", game.value(), 0);
            check.same(full.what() + " but for one square: drop()", game.drop(column), full.h() - 1);
        }
    }

    private void openLines() {
        open("no stone", 4, 3, "", 3, 3);
        open("a stone closes its row for the other one", 4, 3, "0", 3, 2);
        open("stones of both close a row for both", 4, 3, "01", 2, 2);
        open("each one's stone in a row of its own", 4, 3, "00", 2, 2);
        open("a complete line has no stone of the other one", 4, 3, "0011223", 2, 2);
        open("a stone in one line of its column, and the other one's in both", 3, 5, "00", 4, 5);
        open("a corner", 4, 4, "0", 10, 7);
        open("a full board that player 1 has won", 4, 3, "100120213233", 0, 1);
        DropFour game = Check.game(4, 3, "01");
        game.back();
        check.same("open(0) after back()", game.open(0), 3);
        check.same("open(1) after back()", game.open(1), 2);
    }

    private void open(String what, int w, int h, String columns, int of0, int of1) {
        DropFour game = Check.game(w, h, columns);
        check.same(what + ": open(0)", game.open(0), of0);
        check.same(what + ": open(1)", game.open(1), of1);
    }

    private void threatSquares() {
        threats("two stones", 4, 3, "001", 0, 0);
        threats("three stones, the last square empty", 4, 3, "00112", 1, 0);
        threats("the first square empty", 4, 3, "11223", 1, 0);
        threats("one between empty", 4, 3, "00113", 1, 0);
        threats("the other one between empty", 4, 3, "00223", 1, 0);
        threats("the other one has the fourth square", 4, 3, "001123", 0, 0);
        threats("a square that no stone can come to yet", 4, 3, "001122", 1, 1);
        threats("a line with its four stones has no empty square", 4, 3, "0011223", 0, 1);
        threats("both ends", 7, 6, "33445", 2, 0);
        threats("a square in two lines is one", 7, 6, "1122335", 2, 2);
        threats("a column", 3, 4, "01010", 1, 0);
        threats("a column of three rows is no line", 3, 3, "01010", 0, 0);
        DropFour game = Check.game(4, 3, "00112");
        game.back();
        check.same("threats(0) after back()", game.threats(0), 0);
    }

    private void threats(String what, int w, int h, String columns, int of0, int of1) {
        DropFour game = Check.game(w, h, columns);
        check.same(what + ": threats(0)", game.threats(0), of0);
        check.same(what + ": threats(1)", game.threats(1), of1);
    }

    private void whoHasWon() {
        won(Position.ZERO_HAS_WON, 0);
        won(Position.ONE_HAS_WON, 1);
        won(Position.WON_WITH_FEW_EMPTY, 0);
        won(Position.WON_WITH_EVEN_COLUMNS, 0);
        won(new Position("a column and a diagonal at once", 7, 6, "02324412354362"), 1);
        won(new Position("a row and a diagonal at once", 7, 6, "232254465556413"), 0);
        won(new Position("won with the very last stone, by 1", 4, 3, "100120213233"), 1);
        won(new Position("won with the very last stone, by 0", 5, 3, "402403232401311"), 0);
        won(new Position("won in a column with the very last stone", 3, 4, "011200120212"), 1);
    }

    private void won(Position over, int player) {
        DropFour game = over.game();
        check.same(over.what() + ": winner()", game.winner(), player);
        check.same(over.what() + ": winner() once more", game.winner(), player);
        game.back();
        check.same(over.what() + ", after back(): winner()", game.winner(), NONE);
    }

    private void draws() {
        check.same("a full board of 12", Position.FULL_EVEN.game().winner(), DRAW);
        check.same("a full board of 9", Position.FULL_ODD.game().winner(), DRAW);
        check.same("a full board of 12, upright", Check.game(3, 4, "100102212102").winner(), DRAW);
        check.same("a full board of 27", Check.game(9, 3, "580511788056706613232324447").winner(), DRAW);
        check.same("full, but somebody has won", Position.WON_WITH_LAST_STONE.game().winner(), 1);
        DropFour game = Position.FULL_EVEN.game();
        game.back();
        check.same("one square empty", game.winner(), NONE);
    }

    private void nobodyYet() {
        for (Position open : Position.NOT_OVER) {
            check.same(open.what(), open.game().winner(), NONE);
        }
        DropFour game = Position.ONE_HAS_WON.game();
        game.back();
        check.same("the last stone of a line goes", game.winner(), NONE);
    }

    private void countsOfOpen() {
        for (int w = 3; w <= 9; w++) {
            for (int h = 3; h <= (w == 9 ? 6 : 7); h++) {
                int lines = LineSquares.lines(w, h).size();
                open("an empty board of " + w + " by " + h, w, h, "", lines, lines);
            }
        }
        open("no lines at all", 3, 3, "01", 0, 0);
        open("a full board", 4, 3, "012301230123", 0, 0);
        open("a full board that player 0 has won", 5, 3, "402403232401311", 1, 0);
        open("the game is over", 4, 4, "0011223", 4, 3);
        comparedWithPlain(true);
    }

    private void openOfNoPlayer() {
        for (Position position : new Position[] {Position.SMALLEST, Position.WIDEST, Position.FULL_EVEN}) {
            DropFour game = position.game();
            for (int player : NO_PLAYERS) {
                check.argument(position.what() + ": open(" + player + ")", () -> game.open(player));
            }
            check.same(position.what() + ": open(0) answers", game.open(0) >= 0, true);
            check.same(position.what() + ": open(1) answers", game.open(1) >= 0, true);
        }
    }

    private void countsOfThreats() {
        for (int w = 3; w <= 9; w++) {
            for (int h = 3; h <= (w == 9 ? 6 : 7); h++) {
                threats("an empty board of " + w + " by " + h, w, h, "", 0, 0);
            }
        }
        threats("a full board", 4, 3, "012301230123", 0, 0);
        threats("a full board that player 1 has won", 4, 3, "100120213233", 0, 0);
        threats("the game is over, the other one's threat is left", 4, 4, "0011223", 0, 1);
        comparedWithPlain(false);
    }

    /** Positions with lines and stones at every edge of a board, counted line by line. */
    private void comparedWithPlain(boolean ofOpen) {
        for (int[] size : new int[][] {{3, 4}, {4, 3}, {4, 4}, {3, 7}, {9, 3}, {7, 6}, {8, 7}, {9, 6}}) {
            for (int player = 0; player < 2; player++) {
                for (int[][] line : LineSquares.lines(size[0], size[1])) {
                    countsAsPlain(size[0], size[1], Guided.game(size[0], size[1], line, player, true), ofOpen);
                }
                for (int[][] four : LineSquares.wrappedLines(size[0], size[1])) {
                    countsAsPlain(size[0], size[1], Guided.game(size[0], size[1], four, player, false), ofOpen);
                }
            }
        }
    }

    private void countsAsPlain(int w, int h, String columns, boolean ofOpen) {
        if (columns == null) {
            return;
        }
        DropFour game = Check.game(w, h, columns);
        PlainGame plain = new PlainGame(w, h);
        for (int i = 0; i < columns.length(); i++) {
            plain.drop(columns.charAt(i) - '0');
        }
        // With and without the last stone: a line or four squares complete, and three of them.
        for (int stones = columns.length(); stones >= columns.length() - 1; stones--) {
            String what = w + " by " + h + " " + columns.substring(0, stones) + ": ";
            for (int player = 0; player < 2; player++) {
                int got = ofOpen ? game.open(player) : game.threats(player);
                int due = ofOpen ? plain.open(player) : plain.threats(player);
                check.same(what + (ofOpen ? "open(" : "threats(") + player + ")", got, due);
            }
            game.back();
            plain.back();
        }
    }

    private void threatsOfNoPlayer() {
        for (Position position : new Position[] {Position.SMALLEST, Position.WIDEST, Position.FULL_EVEN}) {
            DropFour game = position.game();
            for (int player : NO_PLAYERS) {
                check.argument(position.what() + ": threats(" + player + ")", () -> game.threats(player));
            }
            check.same(position.what() + ": threats(0)", game.threats(0), 0);
            check.same(position.what() + ": threats(1)", game.threats(1), 0);
        }
    }
}
