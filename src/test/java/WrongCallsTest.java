import java.util.ArrayList;
import java.util.List;
import java.util.function.Supplier;
import java.util.function.ToIntFunction;

/**
 * Calls every method in some scenes with values all around the ranges that the document names. Told are which error is
 * due, in the document's order, and that a call that returns an error, or only asks, changes nothing: neither the game
 * nor the pad, the slots, or a state of the history.
 */
public final class WrongCallsTest {
    private static final int NO_SUCH = -1001, BAD_VALUE = -1002, BAD_TEXT = -1003, TOO_MANY = -1004, NOT_POSSIBLE = -1005;
    private static final int GOOD = 0;
    private static final int[] VALUES = {
        Integer.MIN_VALUE, Integer.MIN_VALUE + 1, Integer.MIN_VALUE + 2, -65536, -1006, -1001, -256, -15, -8, -7, -4, -3, -2, -1,
        0, 1, 2, 3, 4, 5, 6, 7, 8, 9, 10, 11, 12, 13, 14, 15, 16, 17, 60, 61, 255, 256, 257, 65537, 1 << 30,
        Integer.MAX_VALUE - 1, Integer.MAX_VALUE};
    private static final long[] NO_TEXTS = {
        0, 1, 10, 32, 127, 128, 255, 256, Long.MIN_VALUE, Long.MIN_VALUE + 1, Long.MIN_VALUE + 33, Long.MAX_VALUE, -1, -49, '1' << 8, 0x310031L,
        Integer.MIN_VALUE, Integer.MAX_VALUE, 1L << 32 | '1', 0x3131313131313120L, 0x2031313131313131L, 0x3100313131313131L, 0x7e7e7e7e7e7e7e7fL,
        0x7f7e7e7e7e7e7e7eL, 0xff31313131313131L, 0x3131313131313100L};
    private static final long[] TEXTS = {33, 126, 0x2121L, 0x7e7e7eL, 0x31313131L, 0x3131313131L, 0x212121212121L, 0x7e7e7e7e7e7e7eL, 0x2121212121212121L, 0x7e7e7e7e7e7e7e7eL};
    private static int calls = 0;
    private static int wrong = 0;

    /** A way to an object's state, and what a call in it has to look at, told by hand. */
    private static final class Scene {
        final String name;
        final Supplier<BorrowedHours> made;
        boolean over;
        int mostOfFirst, mostOfOther, padLength, padFault, history;
        boolean[] saved = new boolean[2];
        final List<Integer> untouched;

        Scene(String name, Supplier<BorrowedHours> made) {
            this.name = name;
            this.made = made;
            untouched = allThatThereIs(made.get());
        }
    }

    private static void report(String what) {
        wrong++;
        if (wrong <= 40) {
            System.out.println(what);
        }
    }

    // ---- what an object holds

    private static void look(BorrowedHours x, List<Integer> told) {
        for (int what = 0; what < 12; what++) {
            told.add(x.count(what));
        }
        for (int player = 0; player < 2; player++) {
            for (int what = 0; what < 6; what++) {
                told.add(x.player(player, what));
            }
        }
        told.add(x.fault());
    }

    /** Takes the object apart: each state of the history, both slots, and what the pad plays. */
    private static List<Integer> allThatThereIs(BorrowedHours x) {
        List<Integer> told = new ArrayList<>();
        look(x, told);
        told.add(x.player(0, 6));
        told.add(x.player(1, 6));
        for (int i = 0; i < 7; i++) {
            told.add(x.undo());
            look(x, told);
        }
        for (int slot = 0; slot < 2; slot++) {
            told.add(x.restore(slot));
            look(x, told);
        }
        told.add(x.put(0x302c303a31L));
        told.add(x.run());
        look(x, told);
        return told;
    }

    // ---- the scenes

    private static void write(BorrowedHours x, String signs) {
        for (char sign : signs.toCharArray()) {
            x.put(sign);
        }
    }

    private static Scene newObject() {
        Scene s = new Scene("a new object", BorrowedHours::new);
        s.mostOfFirst = 4;
        s.mostOfOther = 4;
        return s;
    }

    private static BorrowedHours amidAGame() {
        BorrowedHours x = new BorrowedHours();
        x.set(0, 3);
        x.set(1, 1);
        x.set(3, 1);
        x.begin(5, 3);
        x.save(0);
        x.round(6, 2);
        x.round(2, 0);
        x.round(1, 0);
        write(x, "1:");
        return x;
    }

    private static Scene gameThatGoesOn() {
        Scene s = new Scene("amid a game, full history, the player 1 bids first", WrongCallsTest::amidAGame);
        s.mostOfFirst = 9;
        s.mostOfOther = 1;
        s.padLength = 2;
        s.padFault = 2;
        s.history = 6;
        s.saved[0] = true;
        return s;
    }

    private static BorrowedHours lastRoundPlayed() {
        BorrowedHours x = new BorrowedHours();
        x.set(2, 1);
        x.set(1, 2);
        x.save(1);
        x.begin(2, 6);
        x.round(0, 4);
        x.save(0);
        x.round(3, 2);
        write(x, "2:0,0:1,0:0,0:0,0:0,0:0,0:0,0:0,0:0,0:0,0:0,0:0,0:0,0:0,0:10");
        return x;
    }

    private static Scene gameThatIsOver() {
        Scene s = new Scene("a game that is over, a full pad, both slots full", WrongCallsTest::lastRoundPlayed);
        s.over = true;
        s.padLength = 60;
        s.padFault = -1006;
        s.history = 5;
        s.saved[0] = true;
        s.saved[1] = true;
        return s;
    }

    private static BorrowedHours richBidder() {
        BorrowedHours x = new BorrowedHours();
        x.set(0, 3);
        x.set(1, 2);
        x.begin(6, 6);
        x.round(8, 0);
        x.save(1);
        for (int i = 0; i < 6; i++) {
            x.set(2, 1);
        }
        for (int i = 0; i < 6; i++) {
            x.undo();
        }
        write(x, "14:0,14:00,0:0,0:0,0:0,0:0,0:0,0:0,0:0,0:0,0:0,0:0,0:0,0");
        return x;
    }

    private static Scene bidderOfSixteen() {
        Scene s = new Scene("a bidder who may bid 16, an empty history, a pad with a fault", WrongCallsTest::richBidder);
        s.mostOfFirst = 16;
        s.mostOfOther = 0;
        s.padLength = 56;
        s.padFault = 9;
        s.saved[1] = true;
        return s;
    }

    /** The hand-told facts of a scene are those of its object. */
    private static void checkScene(Scene s) {
        BorrowedHours x = s.made.get();
        int first = x.count(5);
        boolean holds = s.over == (first < 0) && x.count(10) == s.padLength && x.fault() == s.padFault && x.count(11) == s.history;
        if (!s.over) {
            holds &= x.player(first, 1) == s.mostOfFirst && x.player(1 - first, 1) == s.mostOfOther;
        }
        for (int slot = 0; slot < 2; slot++) {
            holds &= s.saved[slot] == s.made.get().restore(slot) >= 0;
        }
        if (!holds) {
            report(s.name + ": is not as the test tells it");
        }
    }

    // ---- a call

    /** due: the error that is due, or GOOD, if none is. */
    private static void call(Scene s, String told, boolean asks, int due, ToIntFunction<BorrowedHours> method) {
        calls++;
        BorrowedHours x = s.made.get();
        int got = method.applyAsInt(x);
        boolean failed = got <= NO_SUCH && got >= NOT_POSSIBLE;
        if (due == GOOD ? failed : got != due) {
            report(s.name + ": " + told + " answered " + got + ", due is " + (due == GOOD ? "no error" : due));
        } else if ((failed || asks) && !allThatThereIs(x).equals(s.untouched)) {
            report(s.name + ": " + told + " answered " + got + ", and changed something");
        }
    }

    private static boolean isIn(int value, int least, int most) {
        return value >= least && value <= most;
    }

    private static void changes(Scene s) {
        int[] least = {1, 0, 0, 0}, most = {3, 2, 1, 1};
        for (int a : VALUES) {
            for (int b : VALUES) {
                String pair = "(" + a + ", " + b + ")";
                boolean set = isIn(a, 0, 3) && isIn(b, least[a], most[a]);
                call(s, "set" + pair, false, set ? GOOD : BAD_VALUE, x -> x.set(a, b));
                boolean begin = isIn(a, 0, 6) && isIn(b, 0, 6);
                call(s, "begin" + pair, false, begin ? GOOD : BAD_VALUE, x -> x.begin(a, b));
                boolean bids = isIn(a, 0, 14) && isIn(b, 0, 14);
                boolean possible = !s.over && a <= s.mostOfFirst && b <= s.mostOfOther;
                call(s, "round" + pair, false, !bids ? BAD_VALUE : possible ? GOOD : NOT_POSSIBLE, x -> x.round(a, b));
            }
        }
        call(s, "play()", false, s.over ? NOT_POSSIBLE : GOOD, BorrowedHours::play);
        call(s, "run()", false, s.padFault == -1006 ? GOOD : BAD_TEXT, BorrowedHours::run);
    }

    private static void questions(Scene s) {
        for (int a : VALUES) {
            for (int b : VALUES) {
                String pair = "(" + a + ", " + b + ")";
                int player = isIn(a, 0, 1) ? GOOD : NO_SUCH;
                call(s, "player" + pair, true, player != GOOD ? player : isIn(b, 0, 6) ? GOOD : BAD_VALUE, x -> x.player(a, b));
                call(s, "forced" + pair, true, player != GOOD ? player : isIn(b, 0, 8) ? GOOD : BAD_VALUE, x -> x.forced(a, b));
                call(s, "ahead" + pair, true, player != GOOD ? player : isIn(b, 0, 3) ? GOOD : BAD_VALUE, x -> x.ahead(a, b));
            }
            String one = "(" + a + ")";
            call(s, "count" + one, true, isIn(a, 0, 11) ? GOOD : BAD_VALUE, x -> x.count(a));
            int bid = !isIn(a, 0, 14) ? BAD_VALUE : s.over || a > s.mostOfFirst ? NOT_POSSIBLE : GOOD;
            call(s, "bestAnswer" + one, true, bid, x -> x.bestAnswer(a));
            int hours = !isIn(a, 0, 1) ? NO_SUCH : s.over ? NOT_POSSIBLE : GOOD;
            call(s, "leastHours" + one, true, hours, x -> x.leastHours(a));
        }
        call(s, "bestBid()", true, s.over ? NOT_POSSIBLE : GOOD, BorrowedHours::bestBid);
        call(s, "keeps()", true, s.over ? NOT_POSSIBLE : GOOD, BorrowedHours::keeps);
        call(s, "fault()", true, GOOD, BorrowedHours::fault);
    }

    private static void textsAndStates(Scene s) {
        for (long characters : NO_TEXTS) {
            call(s, "put(" + characters + ")", false, BAD_VALUE, x -> x.put(characters));
        }
        for (long characters : TEXTS) {
            int number = (71 - Long.numberOfLeadingZeros(characters)) / 8;
            call(s, "put(" + characters + ")", false, s.padLength + number > 60 ? TOO_MANY : GOOD, x -> x.put(characters));
        }
        call(s, "wipe()", false, GOOD, BorrowedHours::wipe);
        call(s, "undo()", false, s.history == 0 ? NOT_POSSIBLE : GOOD, BorrowedHours::undo);
        for (int a : VALUES) {
            String one = "(" + a + ")";
            call(s, "save" + one, false, isIn(a, 0, 1) ? GOOD : BAD_VALUE, x -> x.save(a));
            int restore = !isIn(a, 0, 1) ? BAD_VALUE : s.saved[a] ? GOOD : NOT_POSSIBLE;
            call(s, "restore" + one, false, restore, x -> x.restore(a));
        }
    }

    // ---- what calls without an error leave as it is

    /** Compares but some of what two objects answer: without the counts named, and the fault if it may differ. */
    private static void sameBut(String words, BorrowedHours x, BorrowedHours y, boolean sameFault, int... others) {
        for (int what = 0; what < 12; what++) {
            boolean same = true;
            for (int other : others) {
                same &= other != what;
            }
            if (same && x.count(what) != y.count(what)) {
                report(words + ": count(" + what + ") is " + x.count(what) + ", and was " + y.count(what));
            }
        }
        for (int player = 0; player < 2; player++) {
            for (int what = 0; what < 7; what++) {
                if (x.player(player, what) != y.player(player, what)) {
                    report(words + ": player(" + player + ", " + what + ") is " + x.player(player, what) + ", and was " + y.player(player, what));
                }
            }
        }
        if (sameFault && x.fault() != y.fault()) {
            report(words + ": the fault is " + x.fault() + ", and was " + y.fault());
        }
    }

    private static void leaveTheRest(Scene s) {
        BorrowedHours before = s.made.get();
        BorrowedHours x = s.made.get();
        x.wipe();
        sameBut(s.name + ": wipe", x, before, false, 10);
        x = s.made.get();
        x.put('1');
        sameBut(s.name + ": put", x, before, false, 10);
        for (int slot = 0; slot < 2; slot++) {
            x = s.made.get();
            x.save(slot);
            sameBut(s.name + ": save", x, before, true);
            x.begin(0, 0);
            x.undo();
            sameBut(s.name + ": begin and undo", x, s.made.get(), true, 11);
            x.restore(slot);
            sameBut(s.name + ": restore", x, before, true, 11);
        }
        x = s.made.get();
        x.set(1, 1);
        x.play();
        x.undo();
        x.undo();
        sameBut(s.name + ": set, play and undo", x, before, true, 11);
    }

    public static void main(String[] args) {
        Scene[] scenes = {newObject(), gameThatGoesOn(), gameThatIsOver(), bidderOfSixteen()};
        for (Scene s : scenes) {
            checkScene(s);
            changes(s);
            questions(s);
            textsAndStates(s);
            leaveTheRest(s);
        }
        System.out.println(wrong == 0 ? calls + " calls are as due" : wrong + " calls are not as due");
        if (wrong != 0) {
            System.exit(1);
        }
    }
}
