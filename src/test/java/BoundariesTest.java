import java.util.ArrayList;
import java.util.List;
import java.util.function.Consumer;

/**
 * The boundary cases: each check bears the words of the document that name its case, in the document's order. What
 * holds for every method (wrong values all around each range, and errors that change nothing) is in WrongCallsTest.
 */
public final class BoundariesTest {
    private static final int NO_SUCH = -1001, BAD_VALUE = -1002, BAD_TEXT = -1003, TOO_MANY = -1004, NOT_POSSIBLE = -1005, NONE = -1006;
    private static final int END = 0, LOAN = 1, PAYS = 2, TIE = 3;
    private static final int HAND = 4, FIRST = 5, ROUNDS = 6, WINNER = 7, CLOCK = 8, GAMES = 9, PAD = 10, CHANGES = 11;
    private static final int HOURS = 0, MOST = 1, BEGAN = 2, PAID = 3, TOOK = 4, WON = 5, TIME = 6;
    private static final int[] LEAST_VALUE = {1, 0, 0, 0}, MOST_VALUE = {3, 2, 1, 1}, FIRST_VALUE = {2, 0, 0, 0};
    private static final String FULL_PAD = "0:0,0:0,0:0,0:0,0:0,0:0,0:0,0:0,0:0,0:0,0:0,0:0,0:0,0:0,0:10";
    private static int checks = 0;
    private static int wrong = 0;

    private static void due(String words, long got, long want) {
        checks++;
        if (got != want) {
            wrong++;
            System.out.println(words + ": the answer is " + got + ", due is " + want);
        }
    }

    private static long packed(String signs) {
        long characters = 0;
        for (char c : signs.toCharArray()) {
            characters = characters << 8 | c;
        }
        return characters;
    }

    private static BorrowedHours written(BorrowedHours x, String signs) {
        for (int from = 0; from < signs.length(); from += 8) {
            x.put(packed(signs.substring(from, Math.min(signs.length(), from + 8))));
        }
        return x;
    }

    private static BorrowedHours padOf(String signs) {
        return written(new BorrowedHours(), signs);
    }

    private static BorrowedHours with(int end, int loan, int pays, int tie) {
        BorrowedHours x = new BorrowedHours();
        x.set(END, end);
        x.set(LOAN, loan);
        x.set(PAYS, pays);
        x.set(TIE, tie);
        return x;
    }

    /** A game that began with the hours one and other, and the rounds played in it, as "0:4 1:0". */
    private static BorrowedHours game(BorrowedHours x, int one, int other, String rounds) {
        x.begin(one, other);
        for (String round : rounds.isEmpty() ? new String[0] : rounds.split(" ")) {
            String[] bids = round.split(":");
            if (x.round(Integer.parseInt(bids[0]), Integer.parseInt(bids[1])) < 0) {
                due("the test's own round " + round, 0, 1);
            }
        }
        return x;
    }

    private static BorrowedHours game(BorrowedHours x, int one, int other) {
        return game(x, one, other, "");
    }

    private static void counts(String words, BorrowedHours x, int from, int... want) {
        for (int i = 0; i < want.length; i++) {
            due(words + ", count(" + (from + i) + ")", x.count(from + i), want[i]);
        }
    }

    /** What player() answers for 0 to 5: hours, most bid, hours at the beginning, paid, rounds, games. */
    private static void side(String words, BorrowedHours x, int player, int... want) {
        for (int i = 0; i < want.length; i++) {
            due(words + ", player(" + player + ", " + i + ")", x.player(player, i), want[i]);
        }
    }

    /** The calls of one object are numbered from 1; the last one is the 512th. */
    private static void lastCall() {
        String words = "an object is used for at most 512 calls";
        BorrowedHours x = new BorrowedHours();
        due(words + ": 1", x.set(END, 3), 2);
        due(words + ": 2", x.save(0), 0);
        for (int call = 3; call <= 509; call++) {
            due(words + ": " + call, x.round(0, 0), (call - 3) % 2);
        }
        due(words + ": 510", x.count(ROUNDS), 507);
        due(words + ": 511", x.begin(4, 4), 507);
        due(words + ": 512", x.leastHours(0), with(3, 0, 0, 0).leastHours(0));
        BorrowedHours y = new BorrowedHours();
        for (int call = 1; call <= 510; call += 2) {
            due(words + ": " + call, y.put('1'), 1);
            due(words + ": " + (call + 1), y.wipe(), 1);
        }
        due(words + ": 511", y.play(), 0);
        due(words + ": 512", y.undo(), 0);
    }

    // ---- Terms: conventions, settings

    private static void conventions() {
        String ordered = "the first one that applies is returned";
        BorrowedHours over = game(with(1, 0, 0, 0), 4, 4, "0:0");
        due(ordered + ": round, BAD_VALUE ahead of over", over.round(15, 0), BAD_VALUE);
        due(ordered + ": round, BAD_VALUE ahead of over", over.round(0, -1), BAD_VALUE);
        due(ordered + ": round, over", over.round(14, 14), NOT_POSSIBLE);
        due(ordered + ": bestAnswer, BAD_VALUE ahead of over", over.bestAnswer(15), BAD_VALUE);
        due(ordered + ": bestAnswer, over", over.bestAnswer(14), NOT_POSSIBLE);
        due(ordered + ": leastHours, NO_SUCH ahead of over", over.leastHours(2), NO_SUCH);
        BorrowedHours x = new BorrowedHours();
        due(ordered + ": round, a bad answer ahead of a bid that is too much", x.round(5, 15), BAD_VALUE);
        due(ordered + ": round, a bad bid ahead of an answer that is too much", x.round(-1, 5), BAD_VALUE);
        due(ordered + ": bestAnswer, BAD_VALUE ahead of too much", x.bestAnswer(15), BAD_VALUE);
        due(ordered + ": player, NO_SUCH ahead of BAD_VALUE", x.player(2, 7), NO_SUCH);
        due(ordered + ": forced, NO_SUCH ahead of BAD_VALUE", x.forced(-1, 9), NO_SUCH);
        due(ordered + ": ahead, NO_SUCH ahead of BAD_VALUE", x.ahead(2, 4), NO_SUCH);
        due(ordered + ": restore, BAD_VALUE ahead of nothing saved", x.restore(2), BAD_VALUE);
        BorrowedHours full = padOf(FULL_PAD);
        due(ordered + ": put, BAD_VALUE ahead of TOO_MANY", full.put(0), BAD_VALUE);
        due(ordered + ": put, BAD_VALUE ahead of TOO_MANY", full.put(32), BAD_VALUE);
        due(ordered + ": put, TOO_MANY", full.put(33), TOO_MANY);

        String none = "NONE is returned only if no error applies";
        due(none + ": the winner", x.count(WINNER), NONE);
        due(none + ": not of a player 2", x.player(2, TIME), NO_SUCH);
        due(none + ": time", x.player(0, TIME), NONE);
        due(none + ": leastHours with none", game(with(1, 0, 0, 1), 0, 6).leastHours(0), NONE);
        due(none + ": leastHours when over", game(with(1, 0, 0, 1), 0, 6, "0:0").leastHours(0), NOT_POSSIBLE);
        due(none + ": the fault of a good text", padOf("1:1").fault(), NONE);
    }

    private static void settings() {
        for (int setting = 0; setting < 4; setting++) {
            BorrowedHours x = new BorrowedHours();
            String words = "setting " + setting;
            due(words + ", first value", x.count(setting), FIRST_VALUE[setting]);
            due(words + ", just below its range", x.set(setting, LEAST_VALUE[setting] - 1), BAD_VALUE);
            due(words + ", just above its range", x.set(setting, MOST_VALUE[setting] + 1), BAD_VALUE);
            due(words + ", as it was", x.count(setting), FIRST_VALUE[setting]);
            int before = FIRST_VALUE[setting];
            for (int value = LEAST_VALUE[setting]; value <= MOST_VALUE[setting]; value++) {
                due(words + ", the previous value", x.set(setting, value), before);
                due(words + ", the value", x.count(setting), value);
                before = value;
            }
            for (int other = 0; other < 4; other++) {
                due(words + ", the setting " + other, x.count(other), other == setting ? before : FIRST_VALUE[other]);
            }
        }
    }

    // ---- Terms: the game

    /** For each end: one cell short of it the game goes on, at it it is over, for both players. */
    private static void dial() {
        for (int end = 1; end <= 3; end++) {
            for (int player = 0; player < 2; player++) {
                BorrowedHours x = game(with(end, 0, 1, 0), 6, 6);
                String words = "-END to END: " + end + ", player " + player;
                due(words + ", at first 0", x.count(HAND), 0);
                for (int cell = 1; cell <= end; cell++) {
                    due(words + ", not over", x.count(WINNER), NONE);
                    due(words + ", first bidder", x.count(FIRST), (cell - 1) % 2);
                    boolean bids = x.count(FIRST) == player;
                    due(words + ", takes it", x.round(bids ? 1 : 0, bids ? 0 : 1), player);
                    due(words + ", moved by 1", x.count(HAND), player == 0 ? cell : -cell);
                }
                due(words + ", won at the end", x.count(WINNER), player);
                due(words + ", no first bidder", x.count(FIRST), NONE);
                due(words + ", no round more", x.round(0, 0), NOT_POSSIBLE);
                due(words + ", one game", x.count(GAMES), 1);
            }
        }
        BorrowedHours y = game(with(3, 0, 1, 0), 6, 6, "1:0 0:1 0:1 1:0 0:1 1:0");
        counts("from one cell ahead of an end to one ahead of the other one", y, HAND, -2, 0, 6, NONE, 6, 0);
        y.round(0, 1);
        counts("from one cell ahead of an end to the other one", y, HAND, -3, NONE, 7, 1, 7, 1);
        y = game(with(2, 0, 1, 0), 6, 6, "0:1 0:1 1:0 0:1");
        counts("from -1 up to END", y, HAND, 2, NONE, 4, 0);
        y = game(with(2, 0, 1, 0), 6, 6, "1:0 1:0 0:1 1:0");
        counts("from 1 down to -END", y, HAND, -2, NONE, 4, 1);
    }

    private static void firstBidder() {
        BorrowedHours x = game(with(3, 0, 1, 0), 6, 6, "1:0 0:1 1:0");
        due("over, and none bids first", x.count(FIRST), NONE);
        x.begin(6, 6);
        due("of the first round it is the player 0, after a game of three rounds", x.count(FIRST), 0);
        x.round(0, 1);
        due("the other player than of this one", x.count(FIRST), 1);
        x.round(0, 0);
        due("the other player than of this one, also behind its own round", x.count(FIRST), 0);
        x.round(0, 1);
        x.set(END, 3);
        due("of the first round it is the player 0, after set", x.count(FIRST), 0);
    }

    private static void beginningHours() {
        due("4 at first, of 0", new BorrowedHours().player(0, HOURS), 4);
        due("4 at first, of 1", new BorrowedHours().player(1, HOURS), 4);
        for (int one = 0; one <= 6; one++) {
            for (int other = 0; other <= 6; other++) {
                BorrowedHours x = new BorrowedHours();
                due("begin(" + one + ", " + other + ")", x.begin(one, other), 0);
                side("hours 0 to 6 when a game begins", x, 0, one, one, one, 0, 0, 0);
                side("hours 0 to 6 when a game begins", x, 1, other, other, other, 0, 0, 0);
            }
        }
    }

    /** The most that a player may bid is possible, one more is not, first or second, with and without a loan. */
    private static void loans() {
        for (int loan = 0; loan <= 2; loan++) {
            for (int pays = 0; pays < 2; pays++) {
                String words = "-LOAN at least: " + loan + ", PAYS " + pays;
                BorrowedHours x = game(with(3, loan, pays, 0), 3, 4);
                due(words + ", first bidder", x.round(3 + loan + 1, 0), NOT_POSSIBLE);
                due(words + ", first bidder", x.round(3 + loan, 0), 0);
                side(words, x, 0, -loan, 0, 3, 3 + loan, 1);
                due(words + ", nothing is left for an answer", x.round(0, 1), NOT_POSSIBLE);
                due(words + ", but 0", x.round(1, 0), 1);
                due(words + ", what it got", x.player(0, MOST), 1 - pays);
                BorrowedHours y = game(with(3, loan, pays, 1), 3, 4);
                due(words + ", the other one", y.round(0, 4 + loan + 1), NOT_POSSIBLE);
                due(words + ", the other one", y.round(0, 4 + loan), 1);
                side(words, y, 1, -loan, 0, 4, 4 + loan, 1);
                due(words + ", nothing is left for a bid", y.round(1, 0), NOT_POSSIBLE);
                due(words + ", but 0", y.round(0, 0), 0);
            }
        }
    }

    private static void takers() {
        for (int tie = 0; tie < 2; tie++) {
            for (int first = 0; first < 2; first++) {
                for (int bid = 0; bid <= 4; bid++) {
                    for (int answer = 0; answer <= 4; answer++) {
                        BorrowedHours x = with(3, 0, 1, tie);
                        // A round that costs nothing makes the player 1 the first bidder.
                        game(x, 4, 4, first == 0 ? "" : "0:0");
                        boolean firstTakes = bid > answer || bid == answer && tie == 0;
                        String words = "who bids more takes the round: TIE " + tie + ", first " + first + ", " + bid + ":" + answer;
                        int hand = x.count(HAND);
                        int taker = firstTakes ? first : 1 - first;
                        int price = firstTakes ? bid : answer;
                        due(words, x.round(bid, answer), taker);
                        due(words + ", who takes it pays its bid", x.player(taker, HOURS), 4 - price);
                        due(words + ", the other one does not", x.player(1 - taker, HOURS), 4);
                        due(words + ", to the clock", x.count(CLOCK), price);
                        due(words + ", the hand", x.count(HAND), hand + (taker == 0 ? 1 : -1));
                    }
                }
            }
        }
        for (int tie = 0; tie < 2; tie++) {
            BorrowedHours x = game(with(3, 0, 0, tie), 4, 4, "3:3");
            due("to the other player, if PAYS is 0: taker", x.player(tie, HOURS), 1);
            due("to the other player, if PAYS is 0: other", x.player(1 - tie, HOURS), 7);
            due("nothing to the clock, if PAYS is 0", x.count(CLOCK), 0);
        }
    }

    // ---- Terms: forced wins

    /** A state, the player who can force a win in it, and the time in which it can. */
    private static void timeIs(String words, BorrowedHours x, int player, int time) {
        for (int rounds = 0; rounds <= 8; rounds++) {
            due(words + ", forced(" + player + ", " + rounds + ")", x.forced(player, rounds), rounds >= time ? 1 : 0);
            if (rounds <= 3) {
                due(words + ", ahead(" + player + ", " + rounds + ")", x.ahead(player, rounds), rounds >= time ? 1 : 0);
            }
        }
        due(words + ", time", x.player(player, TIME), time <= 8 ? time : NONE);
    }

    private static void times() {
        timeIs("it has won: 0 rounds", game(with(1, 0, 0, 0), 4, 4, "1:0"), 0, 0);
        timeIs("it has lost: none", game(with(1, 0, 0, 0), 4, 4, "1:0"), 1, 9);
        timeIs("it has won: 0 rounds, the player 1", game(with(1, 0, 0, 0), 4, 4, "0:1"), 1, 0);
        timeIs("it has lost: none, the player 0", game(with(1, 0, 0, 0), 4, 4, "0:1"), 0, 9);
        timeIs("at least one round left", game(with(1, 0, 0, 0), 3, 3), 0, 1);
        timeIs("at least one round left, the other one", game(with(1, 0, 0, 1), 3, 3), 1, 1);
        timeIs("two rounds", game(with(2, 0, 0, 0), 6, 1), 0, 2);
        timeIs("three rounds", game(with(3, 0, 1, 0), 6, 1), 0, 3);
        timeIs("seven rounds, the first bidder 0", game(with(3, 0, 0, 0), 5, 2), 0, 7);
        timeIs("seven rounds, the first bidder 1", game(with(2, 0, 0, 0), 2, 6, "0:4"), 1, 7);
        timeIs("seven rounds, 0 answers", game(with(2, 0, 0, 0), 2, 6, "0:5"), 0, 7);
        timeIs("seven rounds, 1 answers", game(with(3, 0, 0, 0), 1, 6, "0:1 3:0"), 1, 7);
        timeIs("eight rounds, the first bidder 0", game(with(2, 2, 0, 1), 6, 5), 0, 8);
        timeIs("eight rounds, the first bidder 1", game(with(3, 0, 0, 0), 3, 6, "2:0"), 1, 8);
        timeIs("eight rounds, 0 answers", game(with(3, 0, 0, 0), 4, 4, "0:0"), 0, 8);
        timeIs("eight rounds, 1 answers", game(with(2, 2, 0, 0), 5, 6), 1, 8);
        timeIs("nine rounds are none, the first bidder 0", game(with(3, 0, 0, 0), 5, 3), 0, 9);
        timeIs("nine rounds are none, the first bidder 1", game(with(2, 2, 0, 0), 6, 6, "0:4"), 1, 9);
        timeIs("nine rounds are none, 0 answers", game(with(2, 2, 0, 0), 6, 6, "0:5"), 0, 9);
        timeIs("nine rounds are none, 1 answers", game(with(3, 0, 0, 0), 3, 6, "0:0 0:3"), 1, 9);

        timeIs("as the first bidder by some bid for all answers: one hour more", game(with(1, 0, 0, 1), 4, 3), 0, 1);
        timeIs("as the first bidder for all answers: not the same one", game(with(1, 0, 0, 1), 3, 3), 0, 9);
        timeIs("as the other one for all bids: not for the greatest one", game(with(1, 0, 0, 1), 4, 3), 1, 9);
        timeIs("as the other one for all bids by some answer", game(with(1, 0, 0, 0), 3, 4), 1, 1);
        timeIs("as the other one for all bids: not by the same answer", game(with(1, 0, 0, 0), 4, 4), 1, 9);
        timeIs("a loan counts as hours", game(with(1, 2, 0, 0), 0, 0), 0, 1);
        timeIs("no hours, but ties", game(with(1, 0, 1, 0), 0, 0), 0, 1);
        timeIs("no hours, but ties of the other one", game(with(1, 0, 1, 1), 0, 0), 1, 1);
    }

    // ---- Terms: texts, and promises 15 to 17

    private static void numbers() {
        String range = "numbers from 0 to 14 without leading zeros: ";
        for (int number = 0; number <= 20; number++) {
            int at = number <= 14 ? NONE : 1;
            due(range + number + ":0", padOf(number + ":0").fault(), at);
            due(range + "0:" + number, padOf("0:" + number).fault(), at == NONE ? NONE : 3);
            due(range + "0:0," + number + ":0", padOf("0:0," + number + ":0").fault(), at == NONE ? NONE : 5);
        }
        for (int digit = 0; digit <= 9; digit++) {
            due(range + "0" + digit, padOf("0" + digit + ":0").fault(), 1);
            due(range + "answer 0" + digit, padOf("0:0" + digit).fault(), 3);
            due(range + "9" + digit, padOf("9" + digit + ":0").fault(), 1);
            due(range + "10" + digit, padOf("10" + digit + ":0").fault(), 2);
            due(range + "answer 14" + digit, padOf("0:14" + digit).fault(), 4);
        }
    }

    /** At each place of a good text, each sign either can stand there, or it is the fault. */
    private static void eachSignAtEachPlace() {
        String[] before = {"", "0", "1", "2", "14", "0:", "0:0", "0:1", "0:9", "0:10", "0:0,", "0:0,1", "0:0,1:1", "0:0,1:"};
        String digits = "0123456789";
        String[] can = {digits, ":", "01234:", ":", ":", digits, ",", "01234,", ",", ",", digits, "01234:", "01234,", digits};
        for (int i = 0; i < before.length; i++) {
            for (char sign = 33; sign <= 126; sign++) {
                String text = before[i] + sign;
                boolean stands = can[i].indexOf(sign) >= 0;
                boolean whole = stands && sign != ':' && sign != ',' && text.lastIndexOf(':') > text.lastIndexOf(',');
                int want = !stands ? before[i].length() : whole ? NONE : text.length();
                due("the first character that cannot stand at its place: " + text, padOf(text).fault(), want);
                due("behind the fault nothing counts: " + text + "x", padOf(text + "~").fault(), stands ? text.length() : want);
            }
        }
    }

    private static void tooEarly() {
        String early = "ends too early: it is the length of the text: ";
        String[] texts = {"", "0", "14", "1:", "1:1,", "1:1,1", "1:1,14", "1:1,1:", FULL_PAD.substring(0, 56), FULL_PAD.substring(0, 57), FULL_PAD.substring(0, 58)};
        for (String text : texts) {
            due(early + text, padOf(text).fault(), text.length());
            due("BAD_TEXT if the pad has a fault: " + text, padOf(text).run(), BAD_TEXT);
        }
        due(early + "60 characters, the last one a comma", padOf(FULL_PAD.substring(0, 59) + ",").fault(), 60);
        due("a full pad without a fault", padOf(FULL_PAD).fault(), NONE);
        due("a full pad, the fault is its first character", padOf("," + FULL_PAD.substring(1)).fault(), 0);
        due("a full pad, the fault is its last character", padOf(FULL_PAD.substring(0, 59) + "x").fault(), 59);
        due("a full pad, the fault is its last character: 15", padOf(FULL_PAD.substring(0, 59) + "5").fault(), 59);
    }

    private static void putCodes() {
        for (int code = 0; code < 256; code++) {
            int want = code >= 33 && code <= 126 ? 0 : BAD_VALUE;
            for (int place = 0; place < 8; place++) {
                long others = packed("11111111") & ~(255L << 8 * place);
                long characters = others | (long) code << 8 * place;
                boolean ends = code == 0 && place == 7;
                due("a code is not 33 to 126: " + code + " at " + place + " of 8", new BorrowedHours().put(characters), ends ? 7 : want == 0 ? 8 : want);
                long alone = place == 0 ? code : packed("11111111") >>> 64 - 8 * place | (long) code << 8 * place;
                int length = code == 0 ? place == 0 ? BAD_VALUE : place : want == 0 ? place + 1 : want;
                due("a code is not 33 to 126: " + code + " as the first of " + (place + 1), new BorrowedHours().put(alone), length);
            }
        }
        for (int bit = 0; bit < 64; bit++) {
            // The bits 0 to 6 make another character of a 1, the bit 14 is the character 64 ahead of it.
            int want = bit < 7 ? 1 : bit == 14 ? 2 : BAD_VALUE;
            due("a bit above 8 bits that are 0 is not 0: " + bit, new BorrowedHours().put('1' | 1L << bit), want);
            due("one bit alone: " + bit, new BorrowedHours().put(1L << bit), bit == 6 ? 1 : BAD_VALUE);
        }
        due("the least long", new BorrowedHours().put(Long.MIN_VALUE), BAD_VALUE);
        due("the greatest long", new BorrowedHours().put(Long.MAX_VALUE), BAD_VALUE);
        due("the least int", new BorrowedHours().put(Integer.MIN_VALUE), BAD_VALUE);
        due("the greatest int", new BorrowedHours().put(Integer.MAX_VALUE), BAD_VALUE);
        due("-1", new BorrowedHours().put(-1), BAD_VALUE);
        due("the least that is good", new BorrowedHours().put(33), 1);
        due("the greatest that is good", new BorrowedHours().put(0x7e7e7e7e7e7e7e7eL), 8);
        due("one more than it", new BorrowedHours().put(0x7e7e7e7e7e7e7e7fL), BAD_VALUE);
    }

    /** Each length that a pad can have, and each number of characters that can be put behind it. */
    private static void putLengths() {
        for (int length = 0; length <= 60; length++) {
            for (int more = 1; more <= 8; more++) {
                BorrowedHours x = padOf(FULL_PAD.substring(0, length));
                due("the length of the pad", x.count(PAD), length);
                int want = length + more <= 60 ? length + more : TOO_MANY;
                due("the pad would be longer than 60: " + length + " and " + more, x.put(packed("11111111".substring(0, more))), want);
                due("the length of the pad then", x.count(PAD), want == TOO_MANY ? length : want);
            }
        }
        BorrowedHours y = with(3, 2, 0, 0);
        y.put(packed("0:1,2:3,"));
        y.put(packed("4:"));
        y.put(packed("5"));
        due("the lowest 8 bits are the last character", y.run(), 3);
        side("0:1, 2:3, 4:5", y, 0, 7, 9, 4, 3, 1);
        side("0:1, 2:3, 4:5", y, 1, 1, 3, 4, 6, 2);
    }

    private static void wipes() {
        for (int length = 0; length <= 60; length += length == 8 ? 52 : 1) {
            BorrowedHours x = padOf(FULL_PAD.substring(0, length));
            due("wipe: the length that it had", x.wipe(), length);
            due("wipe: empty", x.count(PAD), 0);
            due("wipe: empty, its fault", x.fault(), 0);
            due("wipe: an empty pad", x.wipe(), 0);
            due("wipe: room for 60 again", written(x, FULL_PAD).count(PAD), 60);
        }
    }

    // ---- Promises 1 to 6

    private static void newObject() {
        BorrowedHours x = new BorrowedHours();
        counts("a new object", x, END, 2, 0, 0, 0, 0, 0, 0, NONE, 0, 0, 0, 0);
        side("a new object, 4 hours for both", x, 0, 4, 4, 4, 0, 0, 0, NONE);
        side("a new object, 4 hours for both", x, 1, 4, 4, 4, 0, 0, 0, NONE);
        due("a new object: no change to undo", x.undo(), NOT_POSSIBLE);
        due("a new object: an empty slot", x.restore(0), NOT_POSSIBLE);
        due("a new object: an empty slot", x.restore(1), NOT_POSSIBLE);
        due("a new object: an empty pad", x.wipe(), 0);
    }

    private static void sets() {
        for (int setting = 0; setting < 4; setting++) {
            for (int value = LEAST_VALUE[setting]; value <= MOST_VALUE[setting]; value++) {
                BorrowedHours x = game(with(2, 2, 1, 1), 0, 6, "2:1");
                String words = "begins a new game, with the hours with which the one before began: set(" + setting + ", " + value + ")";
                x.set(setting, value);
                counts(words, x, HAND, 0, 0, 0, NONE, 0, 0);
                side(words, x, 0, 0, x.count(LOAN), 0, 0, 0, 0);
                side(words, x, 1, 6, 6 + x.count(LOAN), 6, 0, 0, 0);
            }
        }
        BorrowedHours y = game(with(1, 0, 0, 0), 6, 0, "6:0");
        due("the same value begins a new game, too", y.set(END, 1), 1);
        counts("the same value, after a game that was over", y, HAND, 0, 0, 0, NONE, 0, 1);
        side("a game that was won stays won", y, 0, 6, 6, 6, 0, 0, 1);
        due("no such setting", y.set(4, 0), BAD_VALUE);
        due("no such setting", y.set(-1, 0), BAD_VALUE);
    }

    private static void begins() {
        BorrowedHours x = with(3, 0, 1, 0);
        due("how many rounds the game before had: none", x.begin(6, 6), 0);
        for (int rounds = 1; rounds <= 20; rounds++) {
            for (int i = 0; i < rounds; i++) {
                // Each takes the rounds in which it bids first, by ties; so the hand stays near the middle.
                due("a round", x.round(0, 0), i % 2);
            }
            due("how many rounds the game before had", x.begin(6, 6), rounds);
            counts("begins a new game", x, HAND, 0, 0, 0, NONE, 0, 0);
        }
        x = game(with(1, 1, 1, 0), 0, 6, "1:0");
        due("how many rounds the game before had, when it was over", x.begin(6, 0), 1);
        counts("a game that was over stays counted", x, HAND, 0, 0, 0, NONE, 0, 1);
        counts("begin keeps the settings", x, END, 1, 1, 1, 0);
        due("just below 0", x.begin(-1, 0), BAD_VALUE);
        due("just below 0", x.begin(0, -1), BAD_VALUE);
        due("just above 6", x.begin(7, 6), BAD_VALUE);
        due("just above 6", x.begin(6, 7), BAD_VALUE);
    }

    private static void rounds() {
        BorrowedHours x = game(with(3, 2, 0, 0), 6, 6, "8:0");
        due("1 has 14 hours, and may bid 16", x.player(1, MOST), 16);
        due("15 is not a bid, though it may bid as much", x.round(15, 0), BAD_VALUE);
        due("16 is not a bid, though it may bid as much", x.round(16, 0), BAD_VALUE);
        due("the greatest bid", x.round(14, 0), 1);
        x = game(with(3, 2, 0, 0), 6, 6, "0:8");
        due("0 has 14 hours, and answers", x.player(0, MOST), 16);
        due("15 is not an answer, though it may bid as much", x.round(0, 15), BAD_VALUE);
        due("-1 is not an answer", x.round(0, -1), BAD_VALUE);
        due("the greatest answer", x.round(0, 14), 0);
        x = new BorrowedHours();
        due("14 is a bid, but more than its player may bid", x.round(14, 0), NOT_POSSIBLE);
        due("14 is an answer, but more than its player may bid", x.round(0, 14), NOT_POSSIBLE);
        due("the least bids", x.round(0, 0), 0);
    }

    private static void plays() {
        BorrowedHours x = game(with(1, 0, 0, 0), 0, 0);
        due("play without hours", x.play(), 0);
        due("NOT_POSSIBLE if the game is over", x.play(), NOT_POSSIBLE);
        BorrowedHours y = game(with(2, 0, 0, 0), 4, 4);
        BorrowedHours z = game(with(2, 0, 0, 0), 4, 4);
        for (int i = 0; i < 12; i++) {
            int bid = y.bestBid();
            due("the best bid and the best answer to it", z.play(), y.round(bid, y.bestAnswer(bid)));
            due("the best bid and the best answer to it: hours", z.player(0, HOURS), y.player(0, HOURS));
            due("the best bid and the best answer to it: hand", z.count(HAND), y.count(HAND));
        }
    }

    private static void runs() {
        due("BAD_TEXT: an empty pad", new BorrowedHours().run(), BAD_TEXT);
        BorrowedHours x = padOf("5:0,0:0");
        due("up to the first one that is not possible: the first one, by its bid", x.run(), 0);
        counts("none is played, and the pad is emptied; a change all the same", x, HAND, 0, 0, 0, NONE, 0, 0, 0, 1);
        x = padOf("0:5,0:0");
        due("up to the first one that is not possible: the first one, by its answer", x.run(), 0);
        counts("none is played, and the pad is emptied; a change all the same", x, HAND, 0, 0, 0, NONE, 0, 0, 0, 1);
        x = written(game(with(1, 0, 0, 0), 4, 4, "0:0"), "0:0");
        due("none is possible when the game is over", x.run(), 0);
        counts("the game stays over, and the pad is emptied", x, HAND, 1, NONE, 1, 0, 0, 1, 0);
        x = padOf("4:4,8:0,0:0");
        due("as much as it may bid", x.run(), 3);
        x = padOf("4:4,9:0,0:0");
        due("one hour more than it may bid, and none behind it", x.run(), 1);
        x = padOf("4:4,8:1");
        due("one hour more than may be answered", x.run(), 1);
        x = written(with(1, 0, 0, 0), "0:0,0:0");
        due("not behind a win", x.run(), 1);
        x = written(with(3, 2, 0, 0), "0:0,0:0,0:0,0:0,0:0,0:0,0:0,0:0,0:0,0:0,0:0,0:0,0:0,0:0,5:6");
        due("a full pad, all rounds", x.run(), 15);
        counts("a full pad, all rounds; one change only, behind four", x, ROUNDS, 15, NONE, 0, 0, 0, 5);
        side("the last round of a full pad", x, 1, -2, 0, 4, 6, 8);
        x = written(game(with(3, 2, 0, 0), 6, 6, "8:0"), "14:0,14:0");
        due("14 as a bid", x.run(), 2);
        side("14 as a bid", x, 0, -2, 0, 6, 22, 2);
        x = written(game(with(3, 2, 0, 0), 6, 6, "0:8"), "0:14,0:14");
        due("14 as an answer", x.run(), 2);
        side("14 as an answer", x, 1, -2, 0, 6, 22, 2);
        x = written(game(with(3, 2, 0, 0), 6, 6, "0:0"), "9:0");
        due("the first bidder is the player 1 then, with 8 to bid", x.run(), 0);
        x = padOf("4:0");
        x.run();
        written(x, "9:0");
        due("a second pad goes on behind the first one, with 8 to bid", x.run(), 0);
        written(x, "8:0");
        due("a second pad goes on behind the first one, with 8 to bid", x.run(), 1);
    }

    // ---- Promises 7 to 14

    private static void players() {
        BorrowedHours x = game(with(1, 1, 0, 0), 6, 0, "7:0");
        side("the game is over: it took all rounds", x, 0, -1, 0, 6, 7, 1, 1, 0);
        side("the game is over: what it was paid may be bid", x, 1, 7, 8, 0, 0, 0, 0, NONE);
        x = game(with(3, 2, 0, 0), 6, 6, "8:0 14:0 14:0");
        side("the most that is paid in three rounds", x, 0, -2, 0, 6, 22, 2, 0, NONE);
        side("the most hours", x, 1, 14, 16, 6, 14, 1, 0);
        due("what, just below", x.player(0, -1), BAD_VALUE);
        due("what, just above", x.player(0, 7), BAD_VALUE);
        due("a player, just below", x.player(-1, 0), NO_SUCH);
        due("a player, just above", x.player(2, 0), NO_SUCH);
        for (int games = 1; games <= 5; games++) {
            game(x = games == 1 ? with(1, 0, 1, 0) : x, 1, 1, "1:0");
            due("games that it won so far", x.player(0, WON), games);
            game(x, 0, 1, "0:1");
            due("games that it won so far", x.player(1, WON), games);
            due("games that were over so far", x.count(GAMES), 2 * games);
        }
    }

    private static void countsOfAll() {
        BorrowedHours x = new BorrowedHours();
        due("just below 0", x.count(-1), BAD_VALUE);
        due("just above 11", x.count(12), BAD_VALUE);
        x = game(with(1, 0, 1, 0), 6, 6, "6:6");
        counts("over by the player 0", x, HAND, 1, NONE, 1, 0, 6, 1);
        x.begin(6, 6);
        counts("the clock and the rounds of this game only", x, HAND, 0, 0, 0, NONE, 0, 1);
        x.round(5, 6);
        counts("over by the player 1", x, HAND, -1, NONE, 1, 1, 6, 2);
    }

    /** In every beginning, under all settings, and a round behind it. */
    private static void aheadTellsTheSame() {
        for (int code = 0; code < 36; code++) {
            for (int hours = 0; hours < 49; hours++) {
                BorrowedHours x = game(with(1 + code % 3, code / 3 % 3, code / 9 % 2, code / 18), hours / 7, hours % 7);
                for (int round = 0; round < 2; round++) {
                    for (int player = 0; player < 2; player++) {
                        for (int rounds = 0; rounds <= 3; rounds++) {
                            String words = "tells the same as forced(): settings " + code + ", hours " + hours + ", " + player + " in " + rounds;
                            due(words, x.ahead(player, rounds), x.forced(player, rounds));
                        }
                    }
                    x.round(hours % 2, hours % 3);
                }
            }
        }
    }

    private static int[] answersOf(BorrowedHours x) {
        return new int[] {x.player(0, TIME), x.player(1, TIME), x.bestBid(), x.bestAnswer(0), x.keeps(), x.leastHours(0), x.leastHours(1)};
    }

    /** What one object was asked under other settings leaves no trace; as many hours as can be stand in the ways. */
    private static void settingsDoNotMix() {
        String[] ways = {"", "8:0", "0:8", "8:0 14:0"};
        for (String way : ways) {
            for (int from = 0; from < 36; from++) {
                BorrowedHours x = new BorrowedHours();
                for (int i = 0; i < 18; i++) {
                    int code = (from + i * (from % 2 == 0 ? 1 : 35)) % 36;
                    int[] setting = {1 + code % 3, code / 9 % 2 * 2, code / 3 % 2, code / 18};
                    for (int s = 0; s < 4; s++) {
                        x.set(s, setting[s]);
                    }
                    String possible = setting[LOAN] < 2 || setting[PAYS] == 1 || setting[END] < 3 ? "" : way;
                    int[] got = answersOf(game(x, 6, 6, possible));
                    int[] want = answersOf(game(with(setting[END], setting[LOAN], setting[PAYS], setting[TIE]), 6, 6, possible));
                    for (int k = 0; k < want.length; k++) {
                        due("settings one after the other, way " + way + ", from " + from + ", " + code + ": answer " + k, got[k], want[k]);
                    }
                }
            }
        }
    }

    private static void aheads() {
        BorrowedHours x = game(with(3, 0, 1, 0), 6, 1);
        due("rounds, just below 0", x.ahead(0, -1), BAD_VALUE);
        due("rounds, just above 3", x.ahead(0, 4), BAD_VALUE);
        due("rounds, the most of forced()", x.ahead(0, 8), BAD_VALUE);
        due("forced, rounds, just below 0", x.forced(0, -1), BAD_VALUE);
        due("forced, rounds, just above 8", x.forced(0, 9), BAD_VALUE);
        due("forced, a player just below", x.forced(-1, 0), NO_SUCH);
        due("forced, a player just above", x.forced(2, 0), NO_SUCH);
        due("ahead, a player just below", x.ahead(-1, 0), NO_SUCH);
        due("ahead, a player just above", x.ahead(2, 0), NO_SUCH);
    }

    /** In brackets the times behind each bid: own, when the first bidder can force a win, otherwise of the other one. */
    private static void bestBids() {
        String own = "the one by which its time is the least";
        due(own + ": 7 behind is 8 in all [- - - - 7 - - - -]", game(with(2, 2, 0, 1), 6, 5).bestBid(), 4);
        due("of several the least bid [- - - 7 7 - - - -]", game(with(2, 2, 1, 0), 6, 5).bestBid(), 3);
        due(own + ", whatever the answer [- - - 9 7 - - - - -]", game(with(2, 2, 0, 0), 6, 6, "0:0 1:0").bestBid(), 4);
        due(own + ": the greatest bid of all", game(with(1, 0, 0, 1), 6, 5).bestBid(), 6);
        due(own + ": the least bid of all", game(with(1, 0, 0, 0), 6, 0).bestBid(), 0);
        due(own + ": the greatest bid, all others win later [4 2 0]", game(with(3, 0, 0, 0), 3, 1, "0:0 0:1").bestBid(), 2);
        due(own + ": the greatest bid of the player 1 [4 2 0]", game(with(2, 0, 0, 0), 0, 4, "0:2").bestBid(), 2);
        due("of several the least bid, of the player 1 [2 0 0 0]", game(with(2, 0, 0, 0), 0, 4, "0:1").bestBid(), 1);

        String none = "if there is none by which it can force a win in 8 rounds";
        due(none + ": 8 behind is 9 in all; of the other one [- - - - - - 4]", game(with(3, 0, 0, 0), 6, 3).bestBid(), 0);
        due(none + ": 8 behind is 9 in all; of the other one [4 6 8 - -]", game(with(2, 2, 0, 0), 6, 6, "0:4").bestBid(), 2);
        due("the time of the other one is the longest [3 7 - 5 3]", game(with(2, 0, 0, 0), 4, 4).bestBid(), 2);
        due("none at all in 8 rounds is longer than any [3 5 7 - 5 3 3]", game(with(2, 0, 0, 0), 6, 6).bestBid(), 3);
        due("none at all in 8 rounds, this one counted [3 3 5 9 - 7 5 3 3]", game(with(2, 2, 0, 0), 6, 6).bestBid(), 3);
        due("none at all in 8 rounds, this one counted [4 4 6 8 -]", game(with(2, 2, 0, 1), 5, 6, "0:4").bestBid(), 3);
        due("the longest, of a greatest bid [1 1 3]", game(with(2, 0, 0, 0), 2, 6).bestBid(), 2);
        due("the longest, of a greatest bid of the player 1 [0 0 0 0 2]", game(with(2, 0, 0, 0), 4, 4, "0:0").bestBid(), 4);
        due("all bids lose at once: of several the least bid", game(with(1, 0, 0, 0), 2, 3).bestBid(), 0);
        due("no hours: the only bid", game(with(1, 0, 0, 1), 0, 0).bestBid(), 0);
        due("NOT_POSSIBLE if the game is over", game(with(1, 0, 0, 0), 2, 3, "0:3").bestBid(), NOT_POSSIBLE);
    }

    private static void bestAnswers() {
        String own = "the one behind which the time of the one who answers is the least";
        due(own + ": times behind the round are 0 to 7 [- - - - 7 - - - -]", game(with(2, 2, 0, 0), 5, 6).bestAnswer(3), 4);
        due(own + " [- 7 9 - - - - -]", game(with(3, 0, 0, 0), 2, 6, "0:5").bestAnswer(0), 1);
        due(own + " [9 9 9 9 7 - - - - -]", game(with(2, 2, 0, 1), 6, 6, "0:0 0:1").bestAnswer(4), 4);
        due("of several the least answer [7 7 7 7 - -]", game(with(2, 0, 0, 0), 5, 5).bestAnswer(3), 0);
        due(own + ": 0, it wins at once", game(with(1, 0, 0, 0), 3, 4).bestAnswer(3), 4);
        due(own + ": 0, it wins at once by a tie", game(with(1, 0, 0, 1), 3, 3).bestAnswer(3), 3);
        due(own + ": the greatest answer of the player 0 [2 2 0]", game(with(2, 0, 0, 0), 2, 1, "0:0").bestAnswer(1), 2);
        due(own + ": the greatest answer of the player 1 [2 2 0]", game(with(3, 0, 0, 0), 0, 3, "0:1 0:0").bestAnswer(1), 2);

        String none = "none with a time";
        due(none + ": 8 is none [- 8 - - - - -]; of the first bidder [- - - - - 6 4]", game(with(3, 0, 0, 0), 4, 6).bestAnswer(0), 0);
        due("the time of the first bidder is the longest [7 7 7 - 5 3]", game(with(2, 0, 0, 0), 5, 5).bestAnswer(2), 3);
        due("none at all is longer than any [7 7 - 5 3]", game(with(2, 0, 0, 1), 4, 4).bestAnswer(2), 2);
        due("none at all, also 8 [8 - - 8 6]", game(with(3, 0, 0, 0), 4, 4).bestAnswer(0), 0);
        due("none at all, also 9 [9 9 9 9 - 7 5 3 3]", game(with(2, 2, 0, 1), 6, 6).bestAnswer(4), 0);
        due("the longest, of a greatest answer [1 1 3]", game(with(2, 0, 0, 0), 5, 2).bestAnswer(1), 2);
        due("the longest, of a greatest answer of the player 0 [0 0 0 2]", game(with(2, 0, 0, 0), 0, 5, "0:3").bestAnswer(2), 3);
        due("the longest, of the player 0 [0 4 2]", game(with(2, 0, 0, 0), 0, 3, "0:2").bestAnswer(0), 1);
        due("all answers lose: of several the least answer", game(with(1, 0, 0, 0), 3, 3).bestAnswer(3), 0);
        due("no hours: the only answer", game(with(1, 0, 0, 0), 6, 0).bestAnswer(6), 0);

        BorrowedHours x = game(with(1, 1, 0, 0), 4, 2);
        due("bid, just below 0", x.bestAnswer(-1), BAD_VALUE);
        due("bid, just above 14", x.bestAnswer(15), BAD_VALUE);
        due("the first bidder may bid as much", x.bestAnswer(5), 0);
        due("the first bidder may not bid as much", x.bestAnswer(6), NOT_POSSIBLE);
        due("the first bidder may not bid as much", x.bestAnswer(14), NOT_POSSIBLE);
        x = game(with(3, 2, 0, 0), 6, 6, "8:0");
        due("the first bidder may bid 16; 14 can be asked", x.bestAnswer(14), 0);
        due("the first bidder may bid 16; 15 cannot be asked", x.bestAnswer(15), BAD_VALUE);
        due("NOT_POSSIBLE if the game is over", game(with(1, 0, 0, 0), 3, 3, "0:0").bestAnswer(0), NOT_POSSIBLE);
    }

    private static void keepsOfAll() {
        due("in 8 rounds, this one counted: 7 behind", game(with(2, 2, 0, 1), 6, 5).keeps(), 1);
        due("in 8 rounds, this one counted: 7 behind, twice", game(with(2, 2, 1, 0), 6, 5).keeps(), 2);
        due("in 8 rounds, this one counted: not 9 behind", game(with(2, 2, 0, 0), 6, 6, "0:0 1:0").keeps(), 1);
        due("in 8 rounds, this one counted: not 8 behind", game(with(3, 0, 0, 0), 5, 3).keeps(), 0);
        due("in 8 rounds, this one counted: not 8 behind, of 1", game(with(2, 2, 0, 0), 6, 6, "0:4").keeps(), 0);
        due("none", new BorrowedHours().keeps(), 0);
        due("all bids", game(with(1, 0, 0, 0), 6, 0).keeps(), 7);
        due("all bids, with the loan", game(with(1, 2, 0, 0), 6, 0).keeps(), 7);
        due("all bids but 0", game(with(1, 0, 0, 1), 6, 0).keeps(), 6);
        due("also bids of more than 14", game(with(2, 2, 0, 0), 6, 6, "0:1 0:9 0:1").keeps(), 16);
        due("NOT_POSSIBLE if the game is over", game(with(1, 0, 0, 0), 6, 0, "1:0").keeps(), NOT_POSSIBLE);
    }

    private static void leastHoursOfAll() {
        due("0 hours, by a tie", game(with(1, 0, 0, 0), 6, 0).leastHours(0), 0);
        due("0 hours of the player 1, by a tie", game(with(1, 0, 0, 1), 0, 6).leastHours(1), 0);
        due("6 hours", game(with(1, 0, 0, 0), 0, 6).leastHours(0), 6);
        due("6 hours, one more than the other one has", game(with(1, 0, 0, 0), 5, 0).leastHours(1), 6);
        due("7 hours are none", game(with(1, 0, 0, 0), 6, 0).leastHours(1), NONE);
        due("7 hours are none, of the player 0", game(with(1, 0, 0, 1), 0, 6).leastHours(0), NONE);
        due("in 8 rounds: in 7 there is none", game(with(2, 2, 0, 0), 5, 0).leastHours(1), 6);
        due("in 8 rounds: in 7 there is none, of the player 0", game(with(2, 2, 0, 1), 0, 5).leastHours(0), 6);
        due("in 8 rounds: in 9 rounds 4 would do", game(with(2, 0, 0, 0), 6, 6, "0:6").leastHours(1), 5);
        due("in 8 rounds: in 9 rounds 4 would do, of the player 0", game(with(2, 0, 0, 1), 6, 6, "6:0").leastHours(0), 5);
        due("hours with a loan", game(with(1, 2, 0, 1), 6, 2).leastHours(0), 3);
        BorrowedHours borrowed = game(with(2, 2, 1, 1), 0, 0, "2:0");
        due("it has borrowed two hours, and cannot force a win at once", borrowed.forced(0, 1), 0);
        due("with 0 hours it ties, and wins by it", borrowed.leastHours(0), 0);
        due("a player, just below", new BorrowedHours().leastHours(-1), NO_SUCH);
        due("a player, just above", new BorrowedHours().leastHours(2), NO_SUCH);
        due("NOT_POSSIBLE if the game is over", game(with(1, 0, 0, 0), 6, 0, "1:0").leastHours(0), NOT_POSSIBLE);
        due("NOT_POSSIBLE if the game is over", game(with(1, 0, 0, 0), 6, 0, "1:0").leastHours(1), NOT_POSSIBLE);
    }

    // ---- Promises 18 to 20

    private static List<Consumer<BorrowedHours>> changes() {
        List<Consumer<BorrowedHours>> all = new ArrayList<>();
        all.add(x -> x.set(TIE, 1));
        all.add(x -> x.begin(5, 3));
        all.add(x -> x.round(1, 0));
        all.add(x -> x.play());
        all.add(x -> written(x, "0:0").run());
        all.add(x -> x.restore(1));
        return all;
    }

    /** Every method that is a change, in histories of each size. */
    private static void undos() {
        String atMost = "a history of at most 6 states is kept";
        for (int method = 0; method < changes().size(); method++) {
            BorrowedHours x = new BorrowedHours();
            x.set(END, 3);
            x.save(1);
            x.undo();
            due("an empty history", x.count(CHANGES), 0);
            for (int number = 1; number <= 9; number++) {
                changes().get(method).accept(x);
                due(atMost + ": method " + method, x.count(CHANGES), Math.min(6, number));
            }
            for (int left = 5; left >= 0; left--) {
                due("how many changes can be undone then", x.undo(), left);
                due("how many changes can be undone", x.count(CHANGES), left);
            }
            due("NOT_POSSIBLE if there is none", x.undo(), NOT_POSSIBLE);
            due("NOT_POSSIBLE again", x.undo(), NOT_POSSIBLE);
        }
        droppedStates();
        undoneStates();
        recordsNothing();
    }

    private static void droppedStates() {
        for (int number = 0; number <= 20; number++) {
            BorrowedHours x = with(3, 0, 1, 0);
            for (int i = 0; i < number; i++) {
                x.round(0, 0);
            }
            int oldest = Math.max(0, number - 6);
            for (int rounds = number - 1; rounds >= oldest; rounds--) {
                x.undo();
                due("undo, after " + number + " rounds: as it was before", x.count(ROUNDS), rounds);
            }
            due("the oldest one is dropped, after " + number + " rounds", x.count(ROUNDS), oldest);
        }
        BorrowedHours y = with(3, 0, 1, 0);
        for (int i = 1; i <= 30; i++) {
            y.round(0, 0);
            y.round(0, 0);
            y.undo();
            due("one dropped, one undone, over and over", y.count(ROUNDS), i);
            due("one dropped, one undone, over and over", y.count(CHANGES), 5);
        }
    }

    private static void undoneStates() {
        BorrowedHours x = game(with(1, 2, 1, 1), 6, 5);
        x.save(0);
        x.round(7, 7);
        counts("won", x, HAND, -1, NONE, 1, 1, 7, 1);
        written(x, "abc");
        x.save(1);
        due("undo a win", x.undo(), 5);
        counts("as it was before a win; the pad is not", x, END, 1, 2, 1, 1, 0, 0, 0, NONE, 0, 0, 3, 5);
        side("as it was before a win", x, 0, 6, 8, 6, 0, 0, 0);
        side("as it was before a win", x, 1, 5, 7, 5, 0, 0, 0);
        due("the slots are not as they were before it", x.restore(1), 1);
        due("undo of restore", x.undo(), 5);
        counts("as it was before restore", x, END, 1, 2, 1, 1, 0, 0, 0, NONE, 0, 0);
        x.undo();
        counts("as it was before begin: the settings stay", x, END, 1, 2, 1, 1);
        side("as it was before begin", x, 0, 4, 6, 4);
        int[][] before = {{1, 2, 1, 0}, {1, 2, 0, 0}, {1, 0, 0, 0}, {2, 0, 0, 0}};
        for (int[] settings : before) {
            x.undo();
            counts("as it was before set", x, END, settings);
        }
        x = padOf("0:1");
        due("undo of run", x.run(), 1);
        written(x, "2:2,");
        due("undo of run", x.undo(), 0);
        counts("the pad is not as it was before run", x, HAND, 0, 0, 0, NONE, 0, 0, 4, 0);
    }

    /** What is no change, and what returns an error, records nothing, and leaves what can be undone. */
    private static void recordsNothing() {
        BorrowedHours x = new BorrowedHours();
        x.round(1, 0);
        x.player(0, 6);
        x.count(0);
        x.forced(0, 8);
        x.ahead(0, 3);
        x.bestBid();
        x.bestAnswer(0);
        x.keeps();
        x.leastHours(0);
        x.put(33);
        x.fault();
        x.run();
        x.wipe();
        x.save(0);
        x.set(0, 0);
        x.begin(7, 7);
        x.round(9, 9);
        x.restore(1);
        due("only what is a change is recorded", x.count(CHANGES), 1);
        x.restore(0);
        due("also if nothing is different then: restore", x.count(CHANGES), 2);
        x.set(END, 2);
        x.set(END, 2);
        due("also if nothing is different then: set", x.count(CHANGES), 4);
        x.begin(4, 4);
        due("also if nothing is different then: begin", x.count(CHANGES), 5);
        written(x, "9:9").run();
        due("also if nothing is different then: run", x.count(CHANGES), 6);
    }

    private static void slots() {
        for (int slot = 0; slot < 2; slot++) {
            BorrowedHours x = game(with(3, 1, 1, 0), 6, 6);
            due("an empty slot", x.restore(slot), NOT_POSSIBLE);
            due("saved in the other slot", x.save(1 - slot), 0);
            due("an empty slot, the other one is not", x.restore(slot), NOT_POSSIBLE);
            x.round(1, 0);
            due("how many rounds the game has", x.save(slot), 1);
            x.round(1, 0);
            due("how many rounds the game has then", x.restore(1 - slot), 0);
            due("how many rounds the game has then", x.restore(slot), 1);
            x.round(1, 0);
            due("overwrites what was saved there", x.save(slot), 2);
            due("not what was saved in the other one", x.restore(1 - slot), 0);
            for (int i = 0; i < 8; i++) {
                x.begin(1, 1);
                due("what was saved last in a slot, which keeps it", x.restore(slot), 2);
                side("what was saved last in a slot", x, 0, 5, 6, 6, 1, 1, 0);
                side("what was saved last in a slot", x, 1, 5, 6, 6, 1, 1, 0);
                counts("what was saved last in a slot; restore is a change", x, END, 3, 1, 1, 0, 0, 0, 2, NONE, 2, 0, 0, 6);
            }
            due("a full history: undo of restore", x.undo(), 5);
            side("before restore", x, 0, 1, 2, 1, 0, 0, 0);
        }
        slotsOfGamesThatAreOver();
    }

    private static void slotsOfGamesThatAreOver() {
        BorrowedHours x = game(with(1, 0, 0, 0), 4, 4, "0:0");
        written(x, "12");
        due("save, a game that is over", x.save(0), 1);
        x.set(END, 3);
        x.begin(0, 0);
        x.wipe();
        written(x, "1:2");
        due("restore, a game that is over", x.restore(0), 1);
        counts("everything except the pad and the history", x, END, 1, 0, 0, 0, 1, NONE, 1, 0, 0, 1, 3, 6);
        due("the pad is not restored", x.fault(), NONE);
        due("over", x.round(0, 0), NOT_POSSIBLE);
        due("games are restored, too", game(x, 4, 4, "0:0").count(GAMES), 2);
        x.restore(0);
        due("games are restored, too", x.count(GAMES), 1);
        due("games are restored, too", x.player(0, WON), 1);
        due("a slot, just below", x.save(-1), BAD_VALUE);
        due("a slot, just above", x.save(2), BAD_VALUE);
        due("a slot, just below", x.restore(-1), BAD_VALUE);
        due("a slot, just above", x.restore(2), BAD_VALUE);
    }

    public static void main(String[] args) {
        lastCall();
        conventions();
        settings();
        dial();
        firstBidder();
        beginningHours();
        loans();
        takers();
        times();
        numbers();
        eachSignAtEachPlace();
        tooEarly();
        putCodes();
        putLengths();
        wipes();
        newObject();
        sets();
        begins();
        rounds();
        plays();
        runs();
        players();
        countsOfAll();
        aheads();
        aheadTellsTheSame();
        settingsDoNotMix();
        bestBids();
        bestAnswers();
        keepsOfAll();
        leastHoursOfAll();
        undos();
        slots();
        System.out.println(wrong == 0 ? checks + " answers are as due" : wrong + " answers are not as due");
        if (wrong != 0) {
            System.exit(1);
        }
    }
}
