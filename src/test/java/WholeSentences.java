import java.util.LinkedHashMap;
import java.util.Map;
import java.util.concurrent.Callable;

/** What the document says of the class as a whole, before its terms and behind its promises. */
final class WholeSentences {
    private static final int CALLS = 512;

    private final Sentences sentences;
    private final Check check;

    WholeSentences(Sentences sentences) {
        this.sentences = sentences;
        check = sentences.check;
    }

    void all() {
        String heading = "What it is";
        sentences.test(heading, "Four in a line on boards of many sizes:", this::manySizes);
        sentences.test(heading, "stones that drop,", this::stonesThatDrop);
        sentences.test(heading, "lines that are open,", () -> both("open", Check.game(4, 3, "1"), 3, 2));
        sentences.test(heading, "squares that threaten,", () -> both("threats", Check.game(5, 3, "11223"), 2, 0));
        sentences.test(heading, "what a position is worth when few squares are empty,", this::worth);
        sentences.test(heading, "and whether one who only follows is beaten.", this::following);
        sentences.test(heading, "An object is used for at most 512 calls after it has been made; "
                + "what later calls answer is free.", this::all512Calls);
        sentences.test("Not promised", "Nothing is promised beyond the answers and state changes described above",
                this::looksChangeNothing);
        sentences.test("Not promised", "How the state is held inside the object is free", this::gamesApart);
    }

    /** Three in a line never win; four do, on every board that has room for them. */
    private void manySizes() {
        for (int w = 3; w <= 9; w++) {
            for (int h = 3; h <= (w == 9 ? 6 : 7); h++) {
                String board = w + " by " + h + ": ";
                DropFour game = Check.game(w, h, "001122");
                check.same(board + "three in a row", game.winner(), DropFour.NONE);
                if (w > 3) {
                    game.drop(3);
                    check.same(board + "four in a row", game.winner(), 0);
                }
                DropFour up = Check.game(w, h, "10101");
                check.same(board + "three in a column", up.winner(), DropFour.NONE);
                if (h > 3) {
                    up.drop(2);
                    up.drop(1);
                    check.same(board + "four in a column", up.winner(), 0);
                }
            }
        }
        check.same("the smallest board has room for none", Check.game(3, 3, "012012012").winner(), DropFour.DRAW);
    }

    private void stonesThatDrop() {
        DropFour game = new DropFour(7, 6);
        check.same("the first stone", game.drop(3), 0);
        check.same("the second one on top of it", game.drop(3), 1);
        check.same("whose the lower one is", game.at(3, 0), 0);
        check.same("whose the upper one is", game.at(3, 1), 1);
    }

    private void both(String what, DropFour game, int forZero, int forOne) {
        boolean open = what.equals("open");
        check.same(what + "(0)", open ? game.open(0) : game.threats(0), forZero);
        check.same(what + "(1)", open ? game.open(1) : game.threats(1), forOne);
    }

    private void worth() {
        DropFour game = Check.game(5, 3, "1122");
        check.same("value()", game.value(), 3);
        check.same("best()", game.best(), 3);
        check.same("valueOf(3)", game.valueOf(3), 3);
        check.state("value() of many empty squares", new DropFour(5, 3)::value);
    }

    private void following() {
        check.same("one who follows is beaten", Check.game(5, 4, "").beats(), true);
        check.same("where no line has room nobody is beaten", Check.game(3, 4, "001122").beats(), false);
    }

    /** Each of the calls answers as the first of its kind did, up to the last one. */
    private void all512Calls() {
        DropFour game = Check.game(4, 5, "01133301");
        Map<String, Callable<?>> looks = looks(game, 4, 5);
        Map<String, Object> due = new LinkedHashMap<>();
        int calls = 8;
        while (calls < CALLS) {
            for (Map.Entry<String, Callable<?>> look : looks.entrySet()) {
                calls++;
                Object got = Check.outcome(look.getValue());
                due.putIfAbsent(look.getKey(), got);
                if (calls <= CALLS) {
                    check.same("call " + calls + ": " + look.getKey(), got, due.get(look.getKey()));
                }
            }
        }
        check.same("value() of that game", due.get("value()"), 5);
        check.same("best() of that game", due.get("best()"), 3);

        DropFour often = new DropFour(9, 6);
        for (int call = 1; call <= CALLS; call += 2) {
            int column = call / 2 % 9;
            check.same("call " + call + ": drop(" + column + ")", often.drop(column), 0);
            check.same("call " + (call + 1) + ": back()", often.back(), column);
        }
    }

    /** Only drop and back change something. */
    private void looksChangeNothing() {
        for (Position[] some : new Position[][] {Position.OVER, Position.NOT_OVER}) {
            for (Position position : some) {
                DropFour game = position.game();
                String due = Check.wholeSight(position.game(), position.w(), position.h());
                for (Map.Entry<String, Callable<?>> look : looks(game, position.w(), position.h()).entrySet()) {
                    Check.outcome(look.getValue());
                    check.same(position.what() + ", after " + look.getKey() + ": all that can be asked",
                            Check.wholeSight(game, position.w(), position.h()), due);
                }
            }
        }
    }

    /** Whatever an object holds, no other object sees it: each of two games is as if it were alone. */
    private void gamesApart() {
        DropFour one = new DropFour(4, 5);
        DropFour other = new DropFour(4, 5);
        String columns = "01133301";
        for (int i = 0; i < columns.length(); i++) {
            one.drop(columns.charAt(i) - '0');
            other.drop('3' - columns.charAt(i)); // the same game, its columns counted from the right
            String done = columns.substring(0, i + 1);
            check.same("the one after " + done, Check.wholeSight(one, 4, 5),
                    Check.wholeSight(Check.game(4, 5, done), 4, 5));
            check.same("value() of both, one seen from behind", Check.outcome(one::value), Check.outcome(other::value));
        }
        while (one.empty() < 20) {
            check.same("back() of both, one seen from behind", one.back(), 3 - other.back());
        }
        check.same("value() of a game begun after them", Check.game(4, 5, columns).value(), 5);
    }

    private static Map<String, Callable<?>> looks(DropFour game, int w, int h) {
        Map<String, Callable<?>> looks = new LinkedHashMap<>();
        looks.put("turn()", game::turn);
        looks.put("winner()", game::winner);
        looks.put("empty()", game::empty);
        looks.put("at(0, 0)", () -> game.at(0, 0));
        looks.put("at(last, last)", () -> game.at(w - 1, h - 1));
        for (int player = 0; player < 2; player++) {
            int whose = player;
            looks.put("open(" + player + ")", () -> game.open(whose));
            looks.put("threats(" + player + ")", () -> game.threats(whose));
        }
        for (int column = 0; column < w; column++) {
            int chosen = column;
            looks.put("valueOf(" + column + ")", () -> game.valueOf(chosen));
        }
        looks.put("value()", game::value);
        looks.put("best()", game::best);
        looks.put("beats()", game::beats);
        return looks;
    }
}
