/** A game up to some point: the board asked for, and the columns of its drops, one digit each. */
record Position(String what, int w, int h, String columns) {
    static final Position ZERO_HAS_WON = new Position("player 0 has won", 7, 6, "0010203");
    static final Position ONE_HAS_WON = new Position("player 1 has won", 7, 6, "60010203");
    static final Position WON_WITH_FEW_EMPTY = new Position("won, 9 squares empty", 4, 4, "0011223");
    static final Position WON_WITH_EVEN_COLUMNS = new Position("won, all columns even, one full", 5, 3, "0414243");
    static final Position WON_WITH_LAST_STONE = new Position("won with the last stone", 4, 3, "100120213233");
    static final Position SMALLEST = new Position("the smallest board, new", 3, 3, "");
    static final Position WIDEST = new Position("the widest board, new", 9, 6, "");
    static final Position FULL_EVEN = new Position("a full board of 12", 4, 3, "012301230123");
    static final Position FULL_ODD = new Position("a full board of 9", 3, 3, "012012012");

    /** Games that are over: by either player's line, early and late, and without one. */
    static final Position[] OVER = {
        ZERO_HAS_WON, ONE_HAS_WON, WON_WITH_FEW_EMPTY, WON_WITH_EVEN_COLUMNS, WON_WITH_LAST_STONE, FULL_EVEN, FULL_ODD,
    };

    /** Games that are not over: new ones, full columns, and as many empty squares as some call allows, or more. */
    static final Position[] NOT_OVER = {
        SMALLEST,
        WIDEST,
        new Position("a new board of 12", 4, 3, ""),
        new Position("a new board of 30", 5, 6, ""),
        new Position("a new board of 32", 8, 4, ""),
        new Position("the largest board, new", 8, 7, ""),
        new Position("a full column among many", 7, 6, "222222"),
        new Position("a full column, 9 squares empty", 4, 3, "000"),
        new Position("13 squares empty", 5, 3, "11"),
        new Position("12 squares empty", 5, 3, "112"),
        new Position("one square empty", 4, 3, "01230123012"),
        new Position("one square empty that wins", 4, 3, "10012021323"),
        new Position("a threat that can be filled", 4, 4, "001122"),
        new Position("30 squares empty, even columns", 8, 4, "00"),
    };

    DropFour game() {
        return Check.game(w, h, columns);
    }
}
