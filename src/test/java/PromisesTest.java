/** Each promise of the document with ordinary inputs, the edges that it names, and wrong inputs; told by hand. */
public final class PromisesTest {
    private static final int NO_SUCH = -1001, BAD_VALUE = -1002, BAD_TEXT = -1003, TOO_MANY = -1004, NOT_POSSIBLE = -1005, NONE = -1006;
    private static final int END = 0, LOAN = 1, PAYS = 2, TIE = 3;
    private static final int MIN = Integer.MIN_VALUE, MAX = Integer.MAX_VALUE;
    private static int wrong = 0;

    private static void due(String call, long got, long want) {
        if (got != want) {
            wrong++;
            System.out.println(call + " answered " + got + ", due is " + want);
        }
    }

    /** What count() answers for 4 to 9: hand, first bidder, rounds, winner, clock, games. */
    private static void counts(String when, BorrowedHours x, int... want) {
        for (int i = 0; i < want.length; i++) {
            due(when + ": count(" + (4 + i) + ")", x.count(4 + i), want[i]);
        }
    }

    private static void settings(String when, BorrowedHours x, int... want) {
        for (int i = 0; i < want.length; i++) {
            due(when + ": count(" + i + ")", x.count(i), want[i]);
        }
    }

    /** What player() answers for 0 to 5: hours, most bid, hours at the beginning, paid, rounds, games. */
    private static void side(String when, BorrowedHours x, int player, int... want) {
        for (int i = 0; i < want.length; i++) {
            due(when + ": player(" + player + ", " + i + ")", x.player(player, i), want[i]);
        }
    }

    private static BorrowedHours with(int end, int loan, int pays, int tie, int one, int other) {
        BorrowedHours x = new BorrowedHours();
        x.set(END, end);
        x.set(LOAN, loan);
        x.set(PAYS, pays);
        x.set(TIE, tie);
        x.begin(one, other);
        return x;
    }

    private static long text(String signs) {
        long characters = 0;
        for (char c : signs.toCharArray()) {
            characters = characters << 8 | c;
        }
        return characters;
    }

    private static void write(BorrowedHours x, String signs) {
        for (int from = 0; from < signs.length(); from += 8) {
            x.put(text(signs.substring(from, Math.min(signs.length(), from + 8))));
        }
    }

    private static void constants() {
        int[] got = {BorrowedHours.NO_SUCH, BorrowedHours.BAD_VALUE, BorrowedHours.BAD_TEXT, BorrowedHours.TOO_MANY, BorrowedHours.NOT_POSSIBLE, BorrowedHours.NONE};
        for (int i = 0; i < got.length; i++) {
            due("constant " + i, got[i], -1001 - i);
        }
        int[] setting = {BorrowedHours.END, BorrowedHours.LOAN, BorrowedHours.PAYS, BorrowedHours.TIE};
        for (int i = 0; i < setting.length; i++) {
            due("setting " + i, setting[i], i);
        }
    }

    private static void promise1NewObject() {
        BorrowedHours x = new BorrowedHours();
        settings("new", x, 2, 0, 0, 0);
        counts("new", x, 0, 0, 0, NONE, 0, 0, 0, 0);
        side("new", x, 0, 4, 4, 4, 0, 0, 0);
        side("new", x, 1, 4, 4, 4, 0, 0, 0);
        due("new: restore(0)", x.restore(0), NOT_POSSIBLE);
        due("new: restore(1)", x.restore(1), NOT_POSSIBLE);
        due("new: undo()", x.undo(), NOT_POSSIBLE);
        x.set(END, 1);
        settings("another new one", new BorrowedHours(), 2, 0, 0, 0);
    }

    private static void promise2Set() {
        BorrowedHours x = new BorrowedHours();
        int[][] outside = {{END, 0}, {END, 4}, {END, MIN}, {END, MAX}, {LOAN, -1}, {LOAN, 3}, {PAYS, -1}, {PAYS, 2}, {TIE, -1}, {TIE, 2}, {-1, 1}, {4, 1}, {MIN, 1}, {MAX, 1}};
        for (int[] pair : outside) {
            due("set(" + pair[0] + ", " + pair[1] + ")", x.set(pair[0], pair[1]), BAD_VALUE);
        }
        settings("after wrong sets", x, 2, 0, 0, 0);
        due("wrong sets are no changes", x.count(11), 0);
        due("set END 3", x.set(END, 3), 2);
        due("set END 1", x.set(END, 1), 3);
        due("set END 1 again", x.set(END, 1), 1);
        due("set LOAN 2", x.set(LOAN, 2), 0);
        due("set LOAN 1", x.set(LOAN, 1), 2);
        due("set LOAN 0", x.set(LOAN, 0), 1);
        due("set PAYS 1", x.set(PAYS, 1), 0);
        due("set PAYS 0", x.set(PAYS, 0), 1);
        due("set TIE 1", x.set(TIE, 1), 0);
        settings("after sets", x, 1, 0, 0, 1);
        due("sets are changes", x.count(11), 6);

        BorrowedHours y = with(2, 0, 1, 0, 6, 3);
        y.round(2, 1);
        y.round(1, 0);
        y.set(PAYS, 1);
        counts("a set begins a new game", y, 0, 0, 0, NONE, 0, 0);
        side("a set keeps the hours of the beginning", y, 0, 6, 6, 6, 0, 0, 0);
        side("a set keeps the hours of the beginning", y, 1, 3, 3, 3, 0, 0, 0);
        y.set(END, 1);
        y.round(0, 0);
        due("won", y.count(7), 0);
        y.set(LOAN, 1);
        due("games won stay", y.player(0, 5), 1);
        due("games stay", y.count(9), 1);
        due("loan", y.player(1, 1), 4);
    }

    private static void promise3Begin() {
        BorrowedHours x = new BorrowedHours();
        int[][] outside = {{7, 0}, {0, 7}, {-1, 0}, {0, -1}, {MIN, 0}, {0, MAX}};
        for (int[] pair : outside) {
            due("begin(" + pair[0] + ", " + pair[1] + ")", x.begin(pair[0], pair[1]), BAD_VALUE);
        }
        due("wrong begins are no changes", x.count(11), 0);
        side("wrong begins", x, 0, 4, 4, 4);
        x.round(1, 0);
        due("begin after a round", x.begin(0, 6), 1);
        counts("begin", x, 0, 0, 0, NONE, 0, 0);
        side("begin", x, 0, 0, 0, 0, 0, 0, 0);
        side("begin", x, 1, 6, 6, 6, 0, 0, 0);
        due("begin after none", x.begin(6, 0), 0);
        x.round(1, 0);
        x.round(0, 1);
        due("won", x.count(7), 0);
        due("begin after a game that was over", x.begin(1, 2), 2);
        due("games stay", x.count(9), 1);
        due("begins are changes", x.count(11), 6);
    }

    private static void promise4Round() {
        BorrowedHours x = new BorrowedHours();
        int[][] outside = {{-1, 0}, {0, -1}, {15, 0}, {0, 15}, {MIN, 0}, {0, MAX}, {15, 5}, {5, 15}};
        for (int[] pair : outside) {
            due("round(" + pair[0] + ", " + pair[1] + ")", x.round(pair[0], pair[1]), BAD_VALUE);
        }
        due("round(5, 0)", x.round(5, 0), NOT_POSSIBLE);
        due("round(0, 5)", x.round(0, 5), NOT_POSSIBLE);
        due("round(14, 14)", x.round(14, 14), NOT_POSSIBLE);
        due("wrong rounds are no changes", x.count(11), 0);
        due("round(4, 3)", x.round(4, 3), 0);
        counts("0 took", x, 1, 1, 1, NONE, 0, 0);
        side("0 took", x, 0, 0, 0, 4, 4, 1, 0);
        side("0 took", x, 1, 8, 8, 4, 0, 0, 0);
        due("the other one is first now", x.round(0, 1), NOT_POSSIBLE);
        due("round(2, 0)", x.round(2, 0), 1);
        counts("1 took", x, 0, 0, 2, NONE, 0, 0);
        side("1 took", x, 0, 2, 2, 4, 4, 1, 0);
        side("1 took", x, 1, 6, 6, 4, 2, 1, 0);
        due("round(1, 3)", x.round(1, 3), 1);
        due("round(0, 0), a tie", x.round(0, 0), 1);
        counts("1 won", x, -2, NONE, 4, 1, 0, 1);
        side("1 won", x, 1, 3, 3, 4, 5, 3, 1);
        side("1 won", x, 0, 5, 5, 4, 4, 1, 0);
        due("over", x.round(0, 0), NOT_POSSIBLE);
        due("over, but wrong first", x.round(15, 0), BAD_VALUE);
        due("rounds are changes", x.count(11), 4);

        BorrowedHours y = with(3, 2, 1, 1, 0, 1);
        due("loan, tie to the other one", y.round(2, 2), 1);
        counts("paid to the clock", y, -1, 1, 1, NONE, 2, 0);
        side("borrowed", y, 1, -1, 1, 1, 2, 1, 0);
        side("borrowed", y, 0, 0, 2, 0, 0, 0, 0);
        due("bids more than it may borrow", y.round(2, 0), NOT_POSSIBLE);
        due("answers more than it may borrow", y.round(0, 3), NOT_POSSIBLE);
        due("first takes by more", y.round(1, 0), 1);
        due("clock", y.count(8), 3);
        due("no hours left", y.player(1, 1), 0);
        due("still bids 0", y.round(1, 0), 0);
        due("and ties", y.round(0, 0), 0);
        due("clock keeps", y.count(8), 4);
        due("hand", y.count(4), 0);

        BorrowedHours z = with(3, 2, 0, 0, 6, 6);
        due("round(8, 0)", z.round(8, 0), 0);
        side("all hours", z, 1, 14, 16, 6, 0, 0, 0);
        due("round(14, 0)", z.round(14, 0), 1);
        side("all hours but two", z, 0, 12, 14, 6, 8, 1, 0);
    }

    private static void promise5Play() {
        BorrowedHours x = with(2, 0, 0, 0, 6, 1);
        due("play", x.play(), 0);
        side("the best bid is 1", x, 0, 5, 5, 6, 1, 1, 0);
        due("play", x.play(), 0);
        counts("won in two rounds", x, 2, NONE, 2, 0, 0, 1);
        due("over", x.play(), NOT_POSSIBLE);
        due("plays are changes, but wrong ones", x.count(11), 6);
        BorrowedHours y = with(1, 0, 1, 0, 2, 3);
        due("the answer wins", y.play(), 1);
        side("the least answer that wins", y, 1, 2, 2, 3, 1, 1, 1);
        due("the clock gets it", y.count(8), 1);
    }

    private static void promise6Run() {
        BorrowedHours x = new BorrowedHours();
        due("an empty pad", x.run(), BAD_TEXT);
        write(x, "1:");
        due("a pad that ends too early", x.run(), BAD_TEXT);
        due("it stays", x.count(10), 2);
        due("no change", x.count(11), 0);
        write(x, "0,0:2");
        due("two rounds", x.run(), 2);
        due("emptied", x.count(10), 0);
        due("one change", x.count(11), 1);
        counts("0 took both", x, 2, NONE, 2, 0, 0, 1);
        side("each paid", x, 0, 1, 1, 4, 3, 2, 1);
        write(x, "0:0");
        due("over", x.run(), 0);
        due("emptied, too", x.count(10), 0);
        due("a change, too", x.count(11), 2);
        due("undo", x.undo(), 1);
        due("undo", x.undo(), 0);
        counts("before both rounds", x, 0, 0, 0, NONE, 0, 0);
        due("the pad is as it was", x.count(10), 0);

        write(x, "1:0,10:0,0:0");
        due("up to the first one that is not possible", x.run(), 1);
        counts("one round", x, 1, 1, 1, NONE, 0, 0);
        due("emptied", x.count(10), 0);
        x.begin(4, 4);
        write(x, "0:5,0:0");
        due("an answer that is too much", x.run(), 0);
        x.begin(4, 4);
        write(x, "0:1,0:0,0:0,0:0");
        due("nothing behind a win", x.run(), 2);
        due("won", x.count(7), 1);

        BorrowedHours y = with(3, 2, 0, 0, 6, 6);
        write(y, "8:0,14:0,14:2");
        due("bids of two digits", y.run(), 3);
        side("0 took twice", y, 0, -2, 0, 6, 22, 2, 0);
        write(y, "1:0,0:0");
        due("1 bids first", y.run(), 2);
        counts("five rounds", y, 1, 1, 5, NONE, 0, 0);
    }

    private static void promise7Player() {
        BorrowedHours x = with(1, 1, 0, 0, 4, 2);
        for (int player : new int[] {-1, 2, MIN, MAX}) {
            due("player(" + player + ", 0)", x.player(player, 0), NO_SUCH);
            due("player(" + player + ", 7)", x.player(player, 7), NO_SUCH);
        }
        for (int what : new int[] {-1, 7, MIN, MAX}) {
            due("player(0, " + what + ")", x.player(0, what), BAD_VALUE);
        }
        side("0", x, 0, 4, 5, 4, 0, 0, 0);
        side("1", x, 1, 2, 3, 2, 0, 0, 0);
        due("0 can force", x.player(0, 6), 1);
        due("1 cannot", x.player(1, 6), NONE);
        x.round(5, 0);
        side("0 won", x, 0, -1, 0, 4, 5, 1, 1);
        side("0 won", x, 1, 7, 8, 2, 0, 0, 0);
        due("it has won", x.player(0, 6), 0);
        due("it has lost", x.player(1, 6), NONE);
        x.begin(0, 3);
        x.round(0, 1);
        due("games of 0", x.player(0, 5), 1);
        due("games of 1", x.player(1, 5), 1);
        x.begin(0, 3);
        x.round(0, 1);
        due("games of 1", x.player(1, 5), 2);
        due("player changes nothing", x.count(11), 6);
        due("a time of six rounds", with(2, 0, 0, 1, 6, 5).player(0, 6), 6);
    }

    private static void promise8Count() {
        BorrowedHours x = with(1, 2, 1, 1, 3, 3);
        for (int what : new int[] {-1, 12, MIN, MAX}) {
            due("count(" + what + ")", x.count(what), BAD_VALUE);
        }
        settings("settings", x, 1, 2, 1, 1);
        x.round(0, 5);
        counts("1 won", x, -1, NONE, 1, 1, 5, 1);
        write(x, "abc");
        due("the pad", x.count(10), 3);
        due("the history", x.count(11), 6);
        x.begin(3, 3);
        counts("a new game", x, 0, 0, 0, NONE, 0, 1);
        x.round(4, 0);
        counts("0 won", x, 1, NONE, 1, 0, 4, 2);
        x.set(END, 3);
        x.round(1, 0);
        counts("one round", x, 1, 1, 1, NONE, 1, 2);
    }

    private static void promise9Forced() {
        BorrowedHours x = with(1, 0, 0, 0, 3, 3);
        for (int player : new int[] {-1, 2, MIN, MAX}) {
            due("forced(" + player + ", 0)", x.forced(player, 0), NO_SUCH);
            due("forced(" + player + ", 9)", x.forced(player, 9), NO_SUCH);
        }
        for (int rounds : new int[] {-1, 9, MIN, MAX}) {
            due("forced(1, " + rounds + ")", x.forced(1, rounds), BAD_VALUE);
        }
        due("no rounds", x.forced(0, 0), 0);
        due("by a tie", x.forced(0, 1), 1);
        due("also in more rounds", x.forced(0, 8), 1);
        due("the other one not", x.forced(1, 8), 0);
        x.set(TIE, 1);
        due("a tie against it", x.forced(0, 8), 0);
        due("the other one by it", x.forced(1, 1), 1);
        x.round(0, 0);
        due("has won", x.forced(1, 0), 1);
        due("has lost", x.forced(0, 8), 0);
        BorrowedHours y = with(2, 0, 0, 1, 6, 5);
        due("five rounds", y.forced(0, 5), 0);
        due("six rounds", y.forced(0, 6), 1);
        BorrowedHours z = with(2, 0, 0, 0, 0, 0);
        due("first by ties, then the other one: for ever", z.forced(0, 8), 0);
        due("for both", z.forced(1, 8), 0);
        z.set(LOAN, 1);
        z.begin(6, 0);
        due("with a loan", z.forced(0, 2), 1);
        due("only in two", z.forced(0, 1), 0);
    }

    private static void promise10Ahead() {
        BorrowedHours x = with(1, 0, 0, 0, 3, 3);
        for (int player : new int[] {-1, 2, MIN, MAX}) {
            due("ahead(" + player + ", 0)", x.ahead(player, 0), NO_SUCH);
            due("ahead(" + player + ", 4)", x.ahead(player, 4), NO_SUCH);
        }
        for (int rounds : new int[] {-1, 4, MIN, MAX}) {
            due("ahead(1, " + rounds + ")", x.ahead(1, rounds), BAD_VALUE);
        }
        due("no rounds", x.ahead(0, 0), 0);
        due("by a tie", x.ahead(0, 1), 1);
        due("also in more rounds", x.ahead(0, 3), 1);
        due("the other one not", x.ahead(1, 3), 0);
        x.set(TIE, 1);
        due("a tie against it", x.ahead(0, 3), 0);
        due("the other one by it", x.ahead(1, 1), 1);
        x.round(0, 0);
        due("has won", x.ahead(1, 0), 1);
        due("has lost", x.ahead(0, 3), 0);
        BorrowedHours y = with(2, 0, 0, 0, 6, 1);
        due("not in one", y.ahead(0, 1), 0);
        due("in two", y.ahead(0, 2), 1);
        BorrowedHours z = with(3, 0, 1, 0, 6, 1);
        due("not in two", z.ahead(0, 2), 0);
        due("in three", z.ahead(0, 3), 1);
        due("as forced", z.forced(0, 3), 1);
    }

    private static void promise11BestBid() {
        BorrowedHours x = with(1, 0, 0, 0, 4, 2);
        due("the least bid that wins", x.bestBid(), 2);
        x.set(TIE, 1);
        due("by more than a tie", x.bestBid(), 3);
        x.begin(2, 4);
        due("lost with all bids", x.bestBid(), 0);
        x.round(0, 0);
        due("over", x.bestBid(), NOT_POSSIBLE);
        due("no loan", with(1, 0, 0, 0, 2, 3).bestBid(), 0);
        due("a loan helps both", with(1, 2, 0, 0, 3, 3).bestBid(), 5);
        BorrowedHours y = with(2, 0, 0, 0, 6, 1);
        due("two rounds", y.bestBid(), 1);
        y.round(1, 0);
        due("of 1, who is first: nothing helps", y.bestBid(), 0);
        BorrowedHours z = new BorrowedHours();
        due("keeps the other one off", z.bestBid(), 2);
        due("it changes nothing", z.count(6), 0);
    }

    private static void promise12BestAnswer() {
        BorrowedHours x = with(1, 0, 0, 0, 4, 2);
        for (int bid : new int[] {-1, 15, MIN, MAX}) {
            due("bestAnswer(" + bid + ")", x.bestAnswer(bid), BAD_VALUE);
        }
        due("more than the first bidder may", x.bestAnswer(5), NOT_POSSIBLE);
        due("more than the first bidder may", x.bestAnswer(14), NOT_POSSIBLE);
        due("one more wins", x.bestAnswer(0), 1);
        due("one more wins", x.bestAnswer(1), 2);
        due("nothing helps", x.bestAnswer(2), 0);
        due("nothing helps", x.bestAnswer(4), 0);
        x.set(TIE, 1);
        due("a tie wins", x.bestAnswer(0), 0);
        due("a tie wins", x.bestAnswer(2), 2);
        x.round(0, 0);
        due("over", x.bestAnswer(0), NOT_POSSIBLE);
        due("over, but wrong first", x.bestAnswer(15), BAD_VALUE);
        BorrowedHours y = with(2, 0, 0, 0, 0, 6);
        due("takes it to win in the next round", y.bestAnswer(0), 1);
        y.round(0, 1);
        due("now 0 answers: nothing helps", y.bestAnswer(2), 0);
        BorrowedHours z = with(3, 2, 0, 0, 6, 6);
        z.round(8, 0);
        due("the most that can be asked", z.bestAnswer(14), 0);
    }

    private static void promise13Keeps() {
        BorrowedHours x = with(1, 0, 0, 0, 4, 2);
        due("2, 3 and 4", x.keeps(), 3);
        x.set(TIE, 1);
        due("3 and 4", x.keeps(), 2);
        x.begin(2, 3);
        due("none", x.keeps(), 0);
        x.round(0, 0);
        due("over", x.keeps(), NOT_POSSIBLE);
        due("the test's four", with(2, 0, 0, 0, 6, 1).keeps(), 4);

        // Who was paid nearly all hours may bid 15, which round() cannot name. By a bid of 1 or more the player 1 wins
        // at once; behind 0 and the answer 1 it answers 1 to 0, and bids 1 then.
        BorrowedHours y = with(2, 2, 0, 0, 6, 6);
        y.round(0, 1);
        y.round(0, 9);
        y.round(0, 1);
        due("the most of 1", y.player(1, 1), 15);
        due("the most of 0", y.player(0, 1), 1);
        due("all bids, 15 too", y.keeps(), 16);
    }

    private static void promise14LeastHours() {
        BorrowedHours x = with(1, 0, 0, 0, 4, 2);
        for (int player : new int[] {-1, 2, MIN, MAX}) {
            due("leastHours(" + player + ")", x.leastHours(player), NO_SUCH);
        }
        due("a tie is enough", x.leastHours(0), 2);
        due("one more than 4", x.leastHours(1), 5);
        x.set(TIE, 1);
        due("one more than 2", x.leastHours(0), 3);
        due("a tie is enough", x.leastHours(1), 4);
        x.round(0, 0);
        due("over", x.leastHours(0), NOT_POSSIBLE);
        due("over, but no such player", x.leastHours(2), NO_SUCH);
        due("6 is not enough", with(1, 0, 0, 1, 0, 6).leastHours(0), NONE);
        due("6 is enough", with(1, 2, 0, 0, 0, 6).leastHours(0), 6);
        due("0 is enough", with(1, 2, 0, 1, 0, 0).leastHours(1), 0);
        BorrowedHours y = with(3, 2, 0, 0, 6, 6);
        y.round(8, 0);
        due("against all hours", y.leastHours(0), NONE);
        due("it changes nothing", y.player(0, 0), -2);
        for (int code = 0; code < 24; code++) {
            BorrowedHours z = with(1 + code / 8, code % 3, code / 2 % 2, code / 4 % 2, 6, code % 7);
            for (int player = 0; player < 2; player++) {
                due("least hours " + code, z.leastHours(player), leastBegun(z, player));
            }
        }
    }

    /** The least hours with which a game can begin that the player can force, those of the other one as they are. */
    private static int leastBegun(BorrowedHours x, int player) {
        int foe = x.player(1 - player, 0);
        for (int hours = 0; hours <= 6; hours++) {
            x.begin(player == 0 ? hours : foe, player == 0 ? foe : hours);
            int forced = x.forced(player, 8);
            x.undo();
            if (forced == 1) {
                return hours;
            }
        }
        return NONE;
    }

    private static void promise15Put() {
        BorrowedHours x = new BorrowedHours();
        x.set(END, 3);
        due("no character", x.put(0), BAD_VALUE);
        due("a space", x.put(32), BAD_VALUE);
        due("127", x.put(127), BAD_VALUE);
        due("128", x.put(128), BAD_VALUE);
        due("255", x.put(255), BAD_VALUE);
        due("only above", x.put(text("1") << 8), BAD_VALUE);
        due("a gap", x.put(text("1") << 16 | text("1")), BAD_VALUE);
        due("a bit above", x.put(1L << 63 | text("1")), BAD_VALUE);
        due("negative", x.put(-1), BAD_VALUE);
        due("least", x.put(Long.MIN_VALUE), BAD_VALUE);
        due("a space among others", x.put(text("1: 1")), BAD_VALUE);
        due("a space ahead", x.put(text(" 1")), BAD_VALUE);
        due("nothing is put", x.count(10), 0);
        due("the lowest code", x.put(33), 1);
        due("the highest code", x.put(126), 2);
        x.wipe();
        due("eight", x.put(text("0:1,1:0,")), 8);
        due("the order", x.fault(), 8);
        due("behind them", x.put(text("2:0")), 11);
        due("the order", x.run(), 3);
        due("one after the other", x.player(1, 4), 2);
        due("one after the other", x.player(0, 3), 2);
        for (int i = 1; i <= 7; i++) {
            due("put", x.put(text("12345678")), 8 * i);
        }
        due("five more", x.put(text("12345")), TOO_MANY);
        due("wrong is told first", x.put(0), BAD_VALUE);
        due("stays", x.count(10), 56);
        due("four more", x.put(text("1234")), 60);
        due("one more", x.put(text("1")), TOO_MANY);
        due("put is no change", x.count(11), 2);
    }

    private static void promise16Wipe() {
        BorrowedHours x = new BorrowedHours();
        due("an empty pad", x.wipe(), 0);
        write(x, "1:1,");
        due("wipe", x.wipe(), 4);
        due("empty then", x.count(10), 0);
        due("its fault", x.fault(), 0);
        due("wipe is no change", x.count(11), 0);
        write(x, "1:1");
        due("only what was put behind", x.fault(), NONE);
    }

    private static void promise17Fault() {
        String[] good = {"0:0", "9:9", "10:14", "14:10", "1:1", "1:1,2:2", "13:12,0:11,1:9"};
        for (String pad : good) {
            BorrowedHours x = new BorrowedHours();
            write(x, pad);
            due(pad, x.fault(), NONE);
        }
        Object[][] bad = {
            {"", 0}, {"1", 1}, {"14", 2}, {"1:", 2}, {"1:1,", 4}, {"1:1,1", 5}, {"1:1,1:", 6},
            {":", 0}, {",", 0}, {"a", 0}, {"-1:0", 0}, {"1::", 2}, {"1:,", 2}, {"1,1", 1}, {"1:1:1", 3}, {"1:1,,", 4}, {"1:1,:", 4},
            {"15:1", 1}, {"1:15", 3}, {"19:1", 1}, {"20:1", 1}, {"00:1", 1}, {"01:1", 1}, {"1:01", 3}, {"100:1", 2}, {"1:140", 4}, {"111:1", 2},
            {"1:1;", 3}, {"1:1,15:0", 5}, {"1:1/", 3}, {"/:1", 0}, {"1.1", 1}, {"1:1x", 3},
        };
        for (Object[] pair : bad) {
            BorrowedHours x = new BorrowedHours();
            write(x, (String) pair[0]);
            due(pair[0] + "", x.fault(), (Integer) pair[1]);
            due(pair[0] + " run", x.run(), BAD_TEXT);
        }
        BorrowedHours x = new BorrowedHours();
        write(x, "0:0,0:0,0:0,0:0,0:0,0:0,0:0,0:0,0:0,0:0,0:0,0:0,0:0,0:0,0:0,");
        due("a full pad that ends too early", x.fault(), 60);
        x.wipe();
        write(x, "0:0,0:0,0:0,0:0,0:0,0:0,0:0,0:0,0:0,0:0,0:0,0:0,0:0,0:0,0:10");
        due("a full pad", x.count(10), 60);
        due("a full pad", x.fault(), NONE);
        x.set(END, 3);
        due("a full pad is played", x.run(), 14);
    }

    private static void promise18Undo() {
        BorrowedHours x = new BorrowedHours();
        x.begin(6, 5);
        for (int i = 1; i <= 6; i++) {
            x.round(0, 0);
            due("changes", x.count(11), Math.min(6, i + 1));
        }
        for (int i = 5; i >= 0; i--) {
            due("undo", x.undo(), i);
            due("rounds", x.count(6), i);
        }
        due("the oldest one is dropped", x.undo(), NOT_POSSIBLE);
        side("after begin", x, 0, 6, 6, 6);
        side("after begin", x, 1, 5, 5, 5);

        BorrowedHours y = with(1, 0, 1, 0, 4, 1);
        write(y, "1:1");
        y.save(1);
        y.round(3, 0);
        counts("won", y, 1, NONE, 1, 0, 3, 1);
        y.save(0);
        due("undo a win", y.undo(), 5);
        counts("not won", y, 0, 0, 0, NONE, 0, 0);
        side("not won", y, 0, 4, 4, 4, 0, 0, 0);
        due("the pad stays", y.count(10), 3);
        due("the slots stay", y.restore(0), 1);
        due("undo restore", y.undo(), 5);
        counts("not won", y, 0, 0, 0, NONE, 0, 0);
        due("set", y.set(END, 1), 1);
        due("a change that makes nothing different", y.count(11), 6);
        y.undo();
        y.undo();
        due("the hours before begin", y.player(1, 2), 4);
        y.undo();
        y.undo();
        y.undo();
        settings("the settings before", y, 1, 0, 0, 0);
        y.undo();
        settings("the first settings", y, 2, 0, 0, 0);

        BorrowedHours z = new BorrowedHours();
        write(z, "0:0");
        due("undo of run", z.run(), 1);
        z.play();
        z.save(0);
        z.restore(0);
        due("run, play and restore are changes", z.count(11), 3);
        z.wipe();
        z.fault();
        z.undo();
        z.undo();
        due("one round", z.count(6), 1);
        z.undo();
        due("none", z.count(6), 0);
        due("the pad does not come back", z.count(10), 0);
    }

    private static void promise19Save() {
        BorrowedHours x = new BorrowedHours();
        for (int slot : new int[] {-1, 2, MIN, MAX}) {
            due("save(" + slot + ")", x.save(slot), BAD_VALUE);
        }
        due("save(0)", x.save(0), 0);
        x.round(1, 0);
        due("save(1)", x.save(1), 1);
        x.round(1, 0);
        due("save is no change", x.count(11), 2);
        due("restore(0)", x.restore(0), 0);
        due("restore(1)", x.restore(1), 1);
        due("overwrites", x.save(0), 1);
        x.begin(1, 1);
        due("what was overwritten", x.restore(0), 1);
        side("what was overwritten", x, 0, 3, 3, 4, 1, 1, 0);
    }

    private static void promise20Restore() {
        BorrowedHours x = with(1, 1, 1, 1, 3, 2);
        for (int slot : new int[] {-1, 2, MIN, MAX}) {
            due("restore(" + slot + ")", x.restore(slot), BAD_VALUE);
        }
        due("nothing saved", x.restore(0), NOT_POSSIBLE);
        due("nothing saved", x.restore(1), NOT_POSSIBLE);
        x.round(4, 0);
        x.save(1);
        due("the other slot", x.restore(0), NOT_POSSIBLE);
        x.undo();
        x.undo();
        x.undo();
        due("three left", x.count(11), 3);
        write(x, "12");
        due("restore", x.restore(1), 1);
        settings("restored", x, 1, 1, 1, 1);
        counts("restored", x, 1, NONE, 1, 0, 4, 1);
        side("restored", x, 0, -1, 0, 3, 4, 1, 1);
        side("restored", x, 1, 2, 3, 2, 0, 0, 0);
        due("the pad is not restored", x.count(10), 2);
        due("restore is a change, and the history stays", x.count(11), 4);
        x.begin(5, 5);
        due("the slot keeps it", x.restore(1), 1);
        side("restored again", x, 0, -1, 0, 3, 4, 1, 1);
        due("undo", x.undo(), 5);
        side("before", x, 0, 5, 6, 5, 0, 0, 1);
    }

    /** Wrong calls in a state where much could be changed. */
    private static void wrongCallsChangeNothing() {
        BorrowedHours x = with(2, 1, 1, 0, 5, 3);
        x.round(2, 1);
        x.save(0);
        write(x, "1:");
        int[] codes = {x.set(0, 9), x.begin(9, 9), x.round(9, 99), x.round(14, 0), x.run(), x.player(5, 5), x.player(0, 9), x.count(99), x.forced(3, 3), x.forced(0, 99),
            x.ahead(3, 3), x.ahead(0, 99), x.bestAnswer(99), x.bestAnswer(14), x.leastHours(9), x.put(0), x.save(9), x.restore(9), x.restore(1)};
        int[] want = {BAD_VALUE, BAD_VALUE, BAD_VALUE, NOT_POSSIBLE, BAD_TEXT, NO_SUCH, BAD_VALUE, BAD_VALUE, NO_SUCH, BAD_VALUE,
            NO_SUCH, BAD_VALUE, BAD_VALUE, NOT_POSSIBLE, NO_SUCH, BAD_VALUE, BAD_VALUE, BAD_VALUE, NOT_POSSIBLE};
        for (int i = 0; i < codes.length; i++) {
            due("wrong call " + i, codes[i], want[i]);
        }
        settings("after wrong calls", x, 2, 1, 1, 0);
        counts("after wrong calls", x, 1, 1, 1, NONE, 2, 0, 2, 6);
        side("after wrong calls", x, 0, 3, 4, 5, 2, 1, 0);
        side("after wrong calls", x, 1, 3, 4, 3, 0, 0, 0);
    }

    public static void main(String[] args) {
        constants();
        promise1NewObject();
        promise2Set();
        promise3Begin();
        promise4Round();
        promise5Play();
        promise6Run();
        promise7Player();
        promise8Count();
        promise9Forced();
        promise10Ahead();
        promise11BestBid();
        promise12BestAnswer();
        promise13Keeps();
        promise14LeastHours();
        promise15Put();
        promise16Wipe();
        promise17Fault();
        promise18Undo();
        promise19Save();
        promise20Restore();
        wrongCallsChangeNothing();
        System.out.println(wrong == 0 ? "all answers are as due" : wrong + " answers are not as due");
        if (wrong != 0) {
            System.exit(1);
        }
    }
}
