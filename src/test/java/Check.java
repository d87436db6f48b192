import java.util.concurrent.Callable;

/** Compares answers with those that are due, and ends a test with exit code 1 if one was wrong. */
final class Check {
    private String about = "";
    private int wrong = 0;
    private int right = 0;

    /** What the next answers are looked at for: it is printed before each wrong one. */
    void about(String words) {
        about = words;
    }

    int answers() {
        return right + wrong;
    }

    void same(String what, Object got, Object due) {
        if (got.equals(due)) {
            right++;
        } else {
            wrong++;
            System.out.println(about + what + " answered " + got + ", due is " + due);
        }
    }

    void argument(String what, Callable<?> call) {
        same(what, outcome(call), "throws.IllegalArgumentException");
    }

    void state(String what, Callable<?> call) {
        same(what, outcome(call), "throws.IllegalStateException");
    }

    void bounds(String what, Callable<?> call) {
        same(what, outcome(call), "throws.IndexOutOfBoundsException");
    }

    void end(String test) {
        System.out.println(test + ": " + right + " answers right, " + wrong + " wrong");
        if (wrong != 0 || right == 0) {
            System.exit(1);
        }
    }

    /** What a call answers, or the exact class of what it throws. */
    static Object outcome(Callable<?> call) {
        try {
            return call.call();
        } catch (Exception thrown) {
            return "throws." + thrown.getClass().getSimpleName();
        }
    }

    /** A new game with a stone dropped in each of the columns, one digit a column. */
    static DropFour game(int w, int h, String columns) {
        return play(new DropFour(w, h), columns);
    }

    static DropFour play(DropFour game, String columns) {
        for (int i = 0; i < columns.length(); i++) {
            game.drop(columns.charAt(i) - '0');
        }
        return game;
    }

    /** All that can be seen without asking for a value: for looking whether a call changed something. */
    static String sight(DropFour game, int columns, int rows) {
        StringBuilder seen = new StringBuilder();
        for (int column = 0; column < columns; column++) {
            for (int row = 0; row < rows; row++) {
                seen.append(game.at(column, row)).append(' ');
            }
        }
        seen.append("turn ").append(game.turn()).append(" winner ").append(game.winner());
        seen.append(" empty ").append(game.empty());
        for (int player = 0; player < 2; player++) {
            seen.append(" open ").append(game.open(player)).append(" threats ").append(game.threats(player));
        }
        return seen.toString();
    }

    /** All that can be seen, values and following too. */
    static String wholeSight(DropFour game, int columns, int rows) {
        StringBuilder seen = new StringBuilder(sight(game, columns, rows));
        seen.append(" value ").append(outcome(game::value)).append(" best ").append(outcome(game::best));
        for (int i = 0; i < columns; i++) {
            int column = i;
            seen.append(" valueOf ").append(outcome(() -> game.valueOf(column)));
        }
        return seen.append(" beats ").append(outcome(game::beats)).toString();
    }
}
