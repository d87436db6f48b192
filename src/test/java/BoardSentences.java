/** The board and its stones: the terms, and promises 1 to 4, 6 and 7. */
final class BoardSentences {
    private static final int NONE = DropFour.NONE;
    private static final int LEAST = Integer.MIN_VALUE;
    private static final int MOST = Integer.MAX_VALUE;

    private final Sentences sentences;
    private final Check check;

    BoardSentences(Sentences sentences) {
        this.sentences = sentences;
        check = sentences.check;
    }

    void all() {
        terms();
        newBoards();
        dropping();
        takingBack();
        looking();
    }

    private void terms() {
        sentences.test("Terms", "THE BOARD has columns 0 .. w - 1 and rows 0 .. h - 1 (0 the lowest): SQUARES.",
                this::squares);
        sentences.test("Terms", "Two players, 0 and 1, drop stones in turn, 0 first,", this::playersInTurn);
        sentences.test("Terms",
                "each in a column that has an empty square: the stone comes to the lowest empty one there.",
                this::lowestEmptySquare);
    }

    private void newBoards() {
        String promise = "Promise 1: A new object";
        sentences.test(promise, "An empty board", this::emptyBoards);
        sentences.test(promise, "w is brought to 3 .. 9", this::columnsBrought);
        sentences.test(promise, "h to 3 .. 7", this::rowsBrought);
        sentences.test(promise, "(3 .. 6 when w is 9)", this::rowsOfTheWidest);
    }

    private void dropping() {
        String promise = "Promise 2: drop";
        sentences.test(promise, "Drops a stone in a column: the row that it comes to.", this::rowsOfDrops);
        sentences.test(promise, "IllegalArgumentException when there is no such column;", this::dropInNoColumn);
        sentences.test(promise, "IllegalStateException when the game is over,", this::dropWhenOver);
        sentences.test(promise, "or the column has no empty square.", this::dropInFullColumn);
    }

    private void takingBack() {
        String promise = "Promise 3: back";
        sentences.test(promise, "The stone that was dropped last goes: its column.", this::lastStoneGoes);
        sentences.test(promise, "IllegalStateException when there is none.", this::nothingToTakeBack);
    }

    private void looking() {
        sentences.test("Promise 4: turn", "Whose turn it is", this::turns);
        sentences.test("Promise 4: turn", "(also when the game is over, as if it were not)", this::turnsWhenOver);
        sentences.test("Promise 6: at", "Whose stone is on a square;", this::stonesOnSquares);
        sentences.test("Promise 6: at", "NONE when it is empty.", this::emptySquares);
        sentences.test("Promise 6: at", "IndexOutOfBoundsException when there is no such square.", this::noSuchSquare);
        sentences.test("Promise 7: empty", "How many squares are empty.", this::countsOfEmpty);
    }

    private void squares() {
        for (int w = 3; w <= 9; w++) {
            for (int h = 3; h <= (w == 9 ? 6 : 7); h++) {
                DropFour game = new DropFour(w, h);
                String board = w + " by " + h + ": ";
                hasSize(board, game, w, h);
                check.same(board + "at(last column, highest row)", game.at(w - 1, h - 1), NONE);
                check.same(board + "drop(0)", game.drop(0), 0);
                check.same(board + "drop(last column)", game.drop(w - 1), 0);
                check.same(board + "the lowest square of the last column", game.at(w - 1, 0), 1);
            }
        }
    }

    /** Which squares there are: none but these. */
    private void hasSize(String what, DropFour game, int columns, int rows) {
        for (int i = -2; i <= 11; i++) {
            int number = i;
            Object inColumn = Check.outcome(() -> game.at(number, 0));
            Object inRow = Check.outcome(() -> game.at(0, number));
            check.same(what + "at(" + i + ", 0)", inColumn, i >= 0 && i < columns ? NONE : "throws.IndexOutOfBoundsException");
            check.same(what + "at(0, " + i + ")", inRow, i >= 0 && i < rows ? NONE : "throws.IndexOutOfBoundsException");
        }
        check.same(what + "empty()", game.empty(), columns * rows);
    }

    private void playersInTurn() {
        DropFour game = new DropFour(5, 5);
        String columns = "0123401234";
        for (int i = 0; i < columns.length(); i++) {
            int column = columns.charAt(i) - '0';
            check.same("turn() before drop " + i, game.turn(), i % 2);
            int row = game.drop(column);
            check.same("whose stone drop " + i + " was", game.at(column, row), i % 2);
        }
    }

    private void lowestEmptySquare() {
        DropFour game = new DropFour(3, 7);
        for (int row = 0; row < 7; row++) {
            for (int column = 0; column < 3; column++) {
                check.same("drop(" + column + ")", game.drop(column), row);
                check.same("at(" + column + ", " + row + ")", game.at(column, row), (row * 3 + column) % 2);
            }
        }
        DropFour gaps = Check.game(7, 6, "0066");
        check.same("between columns with stones: drop(3)", gaps.drop(3), 0);
        check.same("after back(): the square is empty again", gaps.back(), 3);
        check.same("drop(3) once more", gaps.drop(3), 0);
    }

    private void emptyBoards() {
        for (int w = 3; w <= 9; w++) {
            for (int h = 3; h <= (w == 9 ? 6 : 7); h++) {
                DropFour game = new DropFour(w, h);
                String board = w + " by " + h + ": ";
                for (int column = 0; column < w; column++) {
                    for (int row = 0; row < h; row++) {
                        check.same(board + "at(" + column + ", " + row + ")", game.at(column, row), NONE);
                    }
                }
                check.same(board + "empty()", game.empty(), w * h);
                check.same(board + "turn()", game.turn(), 0);
                check.same(board + "winner()", game.winner(), NONE);
                check.state(board + "back()", game::back);
            }
        }
    }

    private void columnsBrought() {
        int[][] asked = {
            {LEAST, 3}, {LEAST + 1, 3}, {-9, 3}, {-1, 3}, {0, 3}, {1, 3}, {2, 3}, {3, 3}, {4, 4}, {8, 8}, {9, 9},
            {10, 9}, {11, 9}, {64, 9}, {1 << 16, 9}, {MOST - 1, 9}, {MOST, 9},
        };
        for (int[] w : asked) {
            hasSize("new DropFour(" + w[0] + ", 5): ", new DropFour(w[0], 5), w[1], 5);
        }
    }

    private void rowsBrought() {
        int[][] asked = {
            {LEAST, 3}, {LEAST + 1, 3}, {-7, 3}, {-1, 3}, {0, 3}, {1, 3}, {2, 3}, {3, 3}, {4, 4}, {6, 6}, {7, 7},
            {8, 7}, {9, 7}, {64, 7}, {1 << 16, 7}, {MOST - 1, 7}, {MOST, 7},
        };
        for (int[] h : asked) {
            for (int w : new int[] {3, 7, 8}) {
                hasSize("new DropFour(" + w + ", " + h[0] + "): ", new DropFour(w, h[0]), w, h[1]);
            }
            hasSize("new DropFour(0, " + h[0] + "): ", new DropFour(0, h[0]), 3, h[1]);
        }
    }

    private void rowsOfTheWidest() {
        int[][] asked = {{LEAST, 3}, {0, 3}, {2, 3}, {3, 3}, {5, 5}, {6, 6}, {7, 6}, {8, 6}, {MOST, 6}};
        for (int[] h : asked) {
            for (int w : new int[] {9, 10, MOST}) {
                hasSize("new DropFour(" + w + ", " + h[0] + "): ", new DropFour(w, h[0]), 9, h[1]);
            }
        }
        hasSize("new DropFour(8, 7): ", new DropFour(8, 7), 8, 7);
    }

    private void rowsOfDrops() {
        for (int[] size : new int[][] {{3, 3}, {8, 7}, {9, 6}}) {
            DropFour game = new DropFour(size[0], size[1]);
            for (int row = 0; row < size[1]; row++) {
                check.same("first column, stone " + row + ": drop()", game.drop(0), row);
                check.same("last column, stone " + row + ": drop()", game.drop(size[0] - 1), row);
                // The turn is shifted now and then, or the first column would soon hold a line.
                if (row % 2 == 1) {
                    game.drop(1);
                }
            }
        }
    }

    private void dropInNoColumn() {
        for (int w = 3; w <= 9; w++) {
            DropFour game = new DropFour(w, 4);
            for (int column : new int[] {-1, w, w + 1, -w, 64, -64, LEAST, MOST}) {
                check.argument(w + " columns: drop(" + column + ")", () -> game.drop(column));
            }
            check.same(w + " columns: drop(0)", game.drop(0), 0);
            check.same(w + " columns: drop(" + (w - 1) + ")", game.drop(w - 1), 0);
        }
        DropFour brought = new DropFour(12, 4);
        check.argument("12 brought to 9: drop(9)", () -> brought.drop(9));
    }

    private void dropWhenOver() {
        for (Position over : Position.OVER) {
            DropFour game = over.game();
            for (int i = 0; i < over.w(); i++) {
                int column = i;
                check.state(over.what() + ": drop(" + i + ")", () -> game.drop(column));
            }
        }
        for (Position open : Position.NOT_OVER) {
            DropFour game = open.game();
            check.same(open.what() + ": a drop in the last column", game.drop(open.w() - 1) >= 0, true);
        }
    }

    private void dropInFullColumn() {
        for (int[] size : new int[][] {{3, 3}, {7, 6}, {8, 7}, {9, 6}}) {
            int w = size[0];
            int h = size[1];
            for (int full = 0; full < w; full += w - 1) {
                int column = full;
                DropFour game = new DropFour(w, h);
                for (int row = 0; row < h; row++) {
                    check.same("drop(" + full + ") of " + h + " rows", game.drop(full), row);
                }
                check.same("the game is not over", game.winner(), NONE);
                check.state("drop(" + full + ") once more", () -> game.drop(column));
                check.same("drop beside it", game.drop(1), 0);
                game.back();
                game.back();
                check.same("drop(" + full + ") after back()", game.drop(full), h - 1);
            }
        }
    }

    private void lastStoneGoes() {
        for (Position[] some : new Position[][] {Position.OVER, Position.NOT_OVER}) {
            for (Position position : some) {
                DropFour game = position.game();
                for (int left = position.columns().length() - 1; left >= 0; left--) {
                    String before = position.columns().substring(0, left);
                    check.same(position.what() + ": back()", game.back(), position.columns().charAt(left) - '0');
                    check.same(position.what() + ": what is left after back()",
                            Check.sight(game, position.w(), position.h()),
                            Check.sight(Check.game(position.w(), position.h(), before), position.w(), position.h()));
                }
            }
        }
    }

    private void nothingToTakeBack() {
        DropFour game = new DropFour(7, 6);
        check.state("back() at first", game::back);
        check.state("back() once more", game::back);
        game.drop(6);
        check.same("back() of the only stone", game.back(), 6);
        check.state("back() after it", game::back);
        check.argument("a drop that is refused", () -> game.drop(7));
        check.state("back() after a drop that was refused", game::back);
        check.same("turn()", game.turn(), 0);
        check.same("empty()", game.empty(), 42);
        check.same("drop(0) after all", game.drop(0), 0);
        check.same("whose stone that is", game.at(0, 0), 0);
    }

    private void turns() {
        DropFour game = new DropFour(4, 3);
        check.same("turn() at first", game.turn(), 0);
        for (int i = 0; i < 11; i++) {
            game.drop(i % 4);
            check.same("turn() after " + (i + 1) + " drops", game.turn(), (i + 1) % 2);
        }
        for (int i = 10; i >= 0; i--) {
            game.back();
            check.same("turn() after back() to " + i + " drops", game.turn(), i % 2);
        }
        check.argument("a drop that is refused", () -> game.drop(4));
        check.same("turn() after it", game.turn(), 0);
    }

    private void turnsWhenOver() {
        check.same("player 0 has won", Position.ZERO_HAS_WON.game().turn(), 1);
        check.same("player 1 has won", Position.ONE_HAS_WON.game().turn(), 0);
        check.same("won with the last stone", Position.WON_WITH_LAST_STONE.game().turn(), 0);
        check.same("a full board of 12", Position.FULL_EVEN.game().turn(), 0);
        check.same("a full board of 9", Position.FULL_ODD.game().turn(), 1);
        DropFour over = Position.ZERO_HAS_WON.game();
        check.state("a drop that is refused", () -> over.drop(6));
        check.same("player 0 has won, after a drop that was refused", over.turn(), 1);
    }

    private void stonesOnSquares() {
        DropFour game = Check.game(9, 6, "08888808");
        int[] ofLast = {1, 0, 1, 0, 1, 1};
        for (int row = 0; row < 6; row++) {
            check.same("at(8, " + row + ")", game.at(8, row), ofLast[row]);
        }
        check.same("at(0, 0)", game.at(0, 0), 0);
        check.same("at(0, 1)", game.at(0, 1), 0);
        for (Position over : Position.OVER) {
            DropFour ended = over.game();
            int last = over.columns().charAt(over.columns().length() - 1) - '0';
            int row = 0;
            while (row + 1 < over.h() && ended.at(last, row + 1) != NONE) {
                row++;
            }
            check.same(over.what() + ": whose the last stone is", ended.at(last, row), 1 - ended.turn());
        }
    }

    private void emptySquares() {
        DropFour game = Check.game(3, 7, "1");
        check.same("above the only stone", game.at(1, 1), NONE);
        check.same("beside it", game.at(0, 0), NONE);
        check.same("the highest square", game.at(2, 6), NONE);
        game.back();
        check.same("where the stone was", game.at(1, 0), NONE);
        check.same("when the game is over", Position.ZERO_HAS_WON.game().at(6, 5), NONE);
    }

    private void noSuchSquare() {
        for (int[] size : new int[][] {{3, 3}, {3, 7}, {8, 7}, {9, 6}, {9, 3}}) {
            int w = size[0];
            int h = size[1];
            DropFour game = Check.game(w, h, "0" + (w - 1));
            int[][] outside = {
                {-1, 0}, {0, -1}, {-1, -1}, {w, 0}, {0, h}, {w, h}, {-1, h}, {w, -1}, {w - 1, h}, {w, h - 1}, {1, -1},
                {LEAST, 0}, {0, LEAST}, {MOST, 0}, {0, MOST}, {LEAST, LEAST}, {MOST, MOST}, {64, 0}, {0, 64}, {-64, 64},
            };
            for (int[] square : outside) {
                check.bounds(w + " by " + h + ": at(" + square[0] + ", " + square[1] + ")",
                        () -> game.at(square[0], square[1]));
            }
            check.same(w + " by " + h + ": at(last column, 0)", game.at(w - 1, 0), 1);
            check.same(w + " by " + h + ": at(last column, highest row)", game.at(w - 1, h - 1), NONE);
        }
        DropFour over = Position.FULL_EVEN.game();
        check.bounds("a full board: at(0, 3)", () -> over.at(0, 3));
        check.bounds("a full board: at(4, 0)", () -> over.at(4, 0));
    }

    private void countsOfEmpty() {
        DropFour game = new DropFour(4, 3);
        for (int i = 0; i < 12; i++) {
            check.same("empty() after " + i + " drops", game.empty(), 12 - i);
            game.drop(i % 4);
        }
        check.same("empty() of a full board", game.empty(), 0);
        game.back();
        check.same("empty() after back()", game.empty(), 1);
        check.same("empty() when player 0 has won", Position.ZERO_HAS_WON.game().empty(), 35);
        check.same("empty() of the largest board", new DropFour(8, 7).empty(), 56);
        check.same("empty() of the widest board", new DropFour(9, 7).empty(), 54);
        check.same("empty() of the smallest board", new DropFour(0, 0).empty(), 9);
    }
}
