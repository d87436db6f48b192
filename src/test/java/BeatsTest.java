/** Promise 13: beats. */
public final class BeatsTest {
    private final Check check = new Check();

    public static void main(String[] args) {
        new BeatsTest().all();
    }

    private void all() {
        answers();
        manyEmpty();
        wrongCalls();
        check.end("BeatsTest");
    }

    private void answers() {
        beats("the lowest row", 4, 4, "", true);
        beats("a drop that wins at once", 4, 4, "001122", true);
        beats("a leader who is player 1", 5, 5, "31042", true);
        beats("a leader who is player 1 and does not win", 5, 5, "1012134", false);
        beats("the last empty squares of a low board", 4, 3, "0123", true);
        beats("no line for the leader", 4, 4, "101110", false);
        beats("columns alone never win: they are shared out in turn", 3, 4, "", false);
        beats("unless three are there", 3, 7, "1010102", true);
        beats("the follower's line is below the leader's, with stones that lie there already", 4, 6, "000202", false);
        beats("the follower's answer comes before the last drop", 7, 4, "6616210341543133002650", false);
        beats("the smallest board", 3, 3, "012", false);
    }

    private void beats(String what, int w, int h, String columns, boolean due) {
        DropFour game = Check.game(w, h, columns);
        String before = Check.sight(game, w, h);
        check.same(what + ": beats()", Check.outcome(game::beats), due);
        check.same(what + ": nothing has changed", Check.sight(game, w, h), before);
    }

    private void manyEmpty() {
        beats("30 squares on an empty board", 5, 6, "", true);
        DropFour game = new DropFour(8, 4);
        check.state("32 squares empty", game::beats);
        Check.play(game, "0");
        check.state("31 squares empty, one column odd", game::beats);
        Check.play(game, "0");
        check.same("30 squares empty", game.beats(), true);
        game.back();
        game.back();
        check.state("32 squares empty again", game::beats);
        check.state("42 squares empty", () -> new DropFour(7, 6).beats());
        check.state("54 squares empty", () -> new DropFour(9, 9).beats());
        check.state("56 squares empty, columns odd", () -> new DropFour(8, 7).beats());
    }

    private void wrongCalls() {
        noFollowing("30 squares empty in odd columns", 6, 5, "");
        noFollowing("two odd columns", 4, 4, "01");
        noFollowing("one odd column, the last", 4, 4, "3");
        noFollowing("one even column among odd ones", 4, 3, "0");
        noFollowing("the game is won, a column is odd", 4, 4, "0011223");
        noFollowing("the game is won, the columns are even", 5, 3, "0414243");
        noFollowing("no square is empty", 4, 3, "012301230123");
    }

    private void noFollowing(String what, int w, int h, String columns) {
        DropFour game = Check.game(w, h, columns);
        String before = Check.sight(game, w, h);
        check.state(what + ": beats()", game::beats);
        check.same(what + ": nothing has changed", Check.sight(game, w, h), before);
    }
}
