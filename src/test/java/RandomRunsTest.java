import java.util.ArrayDeque;
import java.util.Arrays;
import java.util.Deque;
import java.util.HashMap;
import java.util.LinkedHashMap;
import java.util.Map;
import java.util.Random;
import java.util.regex.Matcher;
import java.util.regex.Pattern;

/**
 * Compares runs of calls, drawn with fixed seeds, with a model that says the document's words as plainly as it can:
 * a forced win is told by its definition over all bids and all answers, a fault by a regular expression.
 */
public final class RandomRunsTest {
    private static final int NO_SUCH = -1001, BAD_VALUE = -1002, BAD_TEXT = -1003, TOO_MANY = -1004, NOT_POSSIBLE = -1005, NONE = -1006;
    private static final int LONGER = 1000;
    private static int wrong = 0;
    private static final Map<String, Integer> GIVEN = new HashMap<>();

    /** Everything that undo brings back. */
    private static final class State implements Cloneable {
        int[] setting = {2, 0, 0, 0};
        int[] began = {4, 4}, hours = {4, 4}, paid = {0, 0}, took = {0, 0}, won = {0, 0};
        int hand, first, rounds, clock, over;

        State copy() {
            State s = new State();
            s.setting = setting.clone();
            s.began = began.clone();
            s.hours = hours.clone();
            s.paid = paid.clone();
            s.took = took.clone();
            s.won = won.clone();
            s.hand = hand;
            s.first = first;
            s.rounds = rounds;
            s.clock = clock;
            s.over = over;
            return s;
        }

        int winner() {
            return hand == setting[0] ? 0 : hand == -setting[0] ? 1 : NONE;
        }

        int most(int player) {
            return hours[player] + setting[1];
        }

        int taker(int bid, int answer) {
            if (bid != answer) {
                return bid > answer ? first : 1 - first;
            }
            return setting[3] == 0 ? first : 1 - first;
        }

        void anew() {
            hours = began.clone();
            paid = new int[2];
            took = new int[2];
            hand = first = rounds = clock = 0;
        }

        /** Moves what counts for a forced win. */
        int move(int bid, int answer) {
            int taker = taker(bid, answer);
            int price = taker == first ? bid : answer;
            hours[taker] -= price;
            paid[taker] += price;
            took[taker]++;
            if (setting[2] == 0) {
                hours[1 - taker] += price;
            } else {
                clock += price;
            }
            hand += taker == 0 ? 1 : -1;
            first = 1 - first;
            rounds++;
            if (winner() != NONE) {
                won[winner()]++;
                over++;
            }
            return taker;
        }
    }

    private static final Map<Long, Boolean> TOLD = new HashMap<>();

    private static long key(State s, int player, int rounds) {
        long key = player;
        for (int part : new int[] {rounds, s.setting[0], s.setting[1], s.setting[2], s.setting[3], s.hand + 3, s.first, s.hours[0] + 4, s.hours[1] + 4}) {
            key = key * 40 + part;
        }
        return key;
    }

    private static boolean canForce(State s, int player, int rounds) {
        if (s.winner() != NONE) {
            return s.winner() == player;
        }
        if (rounds == 0) {
            return false;
        }
        long key = key(s, player, rounds);
        Boolean told = TOLD.get(key);
        if (told == null) {
            told = findForce(s, player, rounds);
            TOLD.put(key, told);
        }
        return told;
    }

    private static State light(State s) {
        State t = new State();
        t.setting = s.setting;
        t.hours = s.hours.clone();
        t.hand = s.hand;
        t.first = s.first;
        return t;
    }

    private static State behind(State s, int bid, int answer) {
        State t = light(s);
        t.move(bid, answer);
        return t;
    }

    private static boolean findForce(State s, int player, int rounds) {
        boolean bids = s.first == player;
        for (int bid = 0; bid <= s.most(s.first); bid++) {
            boolean all = true, some = false;
            for (int answer = 0; answer <= s.most(1 - s.first); answer++) {
                boolean can = canForce(behind(s, bid, answer), player, rounds - 1);
                all &= can;
                some |= can;
            }
            if (bids && all) {
                return true;
            }
            if (!bids && !some) {
                return false;
            }
        }
        return !bids;
    }

    private static int time(State s, int player, int most) {
        for (int rounds = 0; rounds <= most; rounds++) {
            if (canForce(s, player, rounds)) {
                return rounds;
            }
        }
        return LONGER;
    }

    /** The time of the first bidder by a bid, whatever the answer. */
    private static int ownTime(State s, int bid) {
        int longest = 0;
        for (int answer = 0; answer <= s.most(1 - s.first); answer++) {
            longest = Math.max(longest, time(behind(s, bid, answer), s.first, 7));
        }
        return longest;
    }

    private static int otherTime(State s, int bid) {
        int least = LONGER;
        for (int answer = 0; answer <= s.most(1 - s.first); answer++) {
            least = Math.min(least, time(behind(s, bid, answer), 1 - s.first, 7));
        }
        return least;
    }

    private static int bestBid(State s) {
        int most = s.most(s.first);
        int[] own = new int[most + 1], other = new int[most + 1];
        for (int bid = 0; bid <= most; bid++) {
            own[bid] = ownTime(s, bid);
            other[bid] = otherTime(s, bid);
        }
        int least = Arrays.stream(own).min().getAsInt();
        int longest = Arrays.stream(other).max().getAsInt();
        for (int bid = 0; bid <= most; bid++) {
            if (least < LONGER ? own[bid] == least : other[bid] == longest) {
                return bid;
            }
        }
        throw new IllegalStateException();
    }

    private static int bestAnswer(State s, int bid) {
        int most = s.most(1 - s.first);
        int[] own = new int[most + 1], foe = new int[most + 1];
        for (int answer = 0; answer <= most; answer++) {
            own[answer] = time(behind(s, bid, answer), 1 - s.first, 7);
            foe[answer] = time(behind(s, bid, answer), s.first, 7);
        }
        int least = Arrays.stream(own).min().getAsInt();
        int longest = Arrays.stream(foe).max().getAsInt();
        for (int answer = 0; answer <= most; answer++) {
            if (least < LONGER ? own[answer] == least : foe[answer] == longest) {
                return answer;
            }
        }
        throw new IllegalStateException();
    }

    private static int keeps(State s) {
        int keeps = 0;
        for (int bid = 0; bid <= s.most(s.first); bid++) {
            keeps += ownTime(s, bid) < LONGER ? 1 : 0;
        }
        return keeps;
    }

    private static final String NUMBER = "(?:1[0-4]|[0-9])";
    private static final Pattern TEXT = Pattern.compile(NUMBER + ":" + NUMBER + "(?:," + NUMBER + ":" + NUMBER + ")*");

    private static int faultOf(String text) {
        for (int i = 1; i <= text.length(); i++) {
            Matcher m = TEXT.matcher(text.substring(0, i));
            if (!m.matches() && !m.hitEnd()) {
                return i - 1;
            }
        }
        return TEXT.matcher(text).matches() ? NONE : text.length();
    }

    /** A state, a pad, a history and two slots, with each call as the document says it. */
    private static final class Model {
        State now = new State();
        String pad = "";
        final Deque<State> history = new ArrayDeque<>();
        final State[] slots = new State[2];

        void record() {
            history.addLast(now.copy());
            if (history.size() > 6) {
                history.removeFirst();
            }
        }

        int set(int setting, int value) {
            int[] least = {1, 0, 0, 0}, most = {3, 2, 1, 1};
            if (setting < 0 || setting > 3 || value < least[setting] || value > most[setting]) {
                return BAD_VALUE;
            }
            record();
            int before = now.setting[setting];
            now.setting[setting] = value;
            now.anew();
            return before;
        }

        int begin(int one, int other) {
            if (one < 0 || one > 6 || other < 0 || other > 6) {
                return BAD_VALUE;
            }
            record();
            int before = now.rounds;
            now.began = new int[] {one, other};
            now.anew();
            return before;
        }

        int round(int bid, int answer) {
            if (bid < 0 || bid > 14 || answer < 0 || answer > 14) {
                return BAD_VALUE;
            }
            if (now.winner() != NONE || bid > now.most(now.first) || answer > now.most(1 - now.first)) {
                return NOT_POSSIBLE;
            }
            record();
            return now.move(bid, answer);
        }

        int play() {
            if (now.winner() != NONE) {
                return NOT_POSSIBLE;
            }
            record();
            int bid = RandomRunsTest.bestBid(now);
            return now.move(bid, RandomRunsTest.bestAnswer(now, bid));
        }

        int run() {
            if (faultOf(pad) != NONE) {
                return BAD_TEXT;
            }
            record();
            int played = 0;
            for (String round : pad.split(",")) {
                String[] bids = round.split(":");
                int bid = Integer.parseInt(bids[0]), answer = Integer.parseInt(bids[1]);
                if (now.winner() != NONE || bid > now.most(now.first) || answer > now.most(1 - now.first)) {
                    break;
                }
                now.move(bid, answer);
                played++;
            }
            pad = "";
            return played;
        }

        int player(int p, int what) {
            if (p < 0 || p > 1) {
                return NO_SUCH;
            }
            if (what < 0 || what > 6) {
                return BAD_VALUE;
            }
            int time = time(now, p, 8);
            return new int[] {now.hours[p], now.most(p), now.began[p], now.paid[p], now.took[p], now.won[p], time == LONGER ? NONE : time}[what];
        }

        int count(int what) {
            if (what < 0 || what > 11) {
                return BAD_VALUE;
            }
            int[] s = now.setting;
            int next = now.winner() == NONE ? now.first : NONE;
            return new int[] {s[0], s[1], s[2], s[3], now.hand, next, now.rounds, now.winner(), now.clock, now.over, pad.length(), history.size()}[what];
        }

        int forced(int p, int rounds, int most) {
            if (p < 0 || p > 1) {
                return NO_SUCH;
            }
            return rounds < 0 || rounds > most ? BAD_VALUE : canForce(now, p, rounds) ? 1 : 0;
        }

        int bestBid() {
            return now.winner() != NONE ? NOT_POSSIBLE : RandomRunsTest.bestBid(now);
        }

        int bestAnswer(int bid) {
            if (bid < 0 || bid > 14) {
                return BAD_VALUE;
            }
            return now.winner() != NONE || bid > now.most(now.first) ? NOT_POSSIBLE : RandomRunsTest.bestAnswer(now, bid);
        }

        int keeps() {
            return now.winner() != NONE ? NOT_POSSIBLE : RandomRunsTest.keeps(now);
        }

        int leastHours(int p) {
            if (p < 0 || p > 1) {
                return NO_SUCH;
            }
            if (now.winner() != NONE) {
                return NOT_POSSIBLE;
            }
            for (int hours = 0; hours <= 6; hours++) {
                State t = light(now);
                t.hours[p] = hours;
                if (canForce(t, p, 8)) {
                    return hours;
                }
            }
            return NONE;
        }

        int put(long characters) {
            StringBuilder text = new StringBuilder();
            boolean ended = false;
            for (int i = 0; i < 8; i++) {
                int code = (int) ((characters >> (8 * i)) & 255);
                if (code == 0) {
                    ended = true;
                } else if (ended || code < 33 || code > 126) {
                    return BAD_VALUE;
                } else {
                    text.insert(0, (char) code);
                }
            }
            if (text.length() == 0) {
                return BAD_VALUE;
            }
            if (pad.length() + text.length() > 60) {
                return TOO_MANY;
            }
            pad += text;
            return pad.length();
        }

        int wipe() {
            int before = pad.length();
            pad = "";
            return before;
        }

        int undo() {
            if (history.isEmpty()) {
                return NOT_POSSIBLE;
            }
            now = history.removeLast();
            return history.size();
        }

        int save(int slot) {
            if (slot < 0 || slot > 1) {
                return BAD_VALUE;
            }
            slots[slot] = now.copy();
            return now.rounds;
        }

        int restore(int slot) {
            if (slot < 0 || slot > 1) {
                return BAD_VALUE;
            }
            if (slots[slot] == null) {
                return NOT_POSSIBLE;
            }
            record();
            now = slots[slot].copy();
            return now.rounds;
        }
    }

    private static final int[] ODD = {-1, Integer.MIN_VALUE, Integer.MAX_VALUE, 2, 3, 4, 7, 8, 9, 12, 15, 16, -3, 1 << 30};

    /** Mostly from least to most, at times just outside or far away. */
    private static int draw(Random random, int least, int most) {
        int kind = random.nextInt(16);
        if (kind == 0) {
            return ODD[random.nextInt(ODD.length)];
        }
        if (kind == 1) {
            return random.nextBoolean() ? least - 1 : most + 1;
        }
        return least + random.nextInt(most - least + 1);
    }

    private static long packed(String text) {
        long characters = 0;
        for (char c : text.toCharArray()) {
            characters = characters << 8 | c;
        }
        return characters;
    }

    private static long drawText(Random random, Model model) {
        int kind = random.nextInt(12);
        if (kind == 0) {
            return random.nextLong();
        }
        if (kind == 1) {
            return packed("1:" + (char) random.nextInt(256) + "1");
        }
        if (kind == 2) {
            long characters = packed("0:1,1:0,");
            return characters & ~(255L << (8 * random.nextInt(8)));
        }
        if (kind == 3) {
            StringBuilder text = new StringBuilder();
            for (int i = random.nextInt(8); i >= 0; i--) {
                text.append("0123456789:,::,,11".charAt(random.nextInt(18)));
            }
            return packed(text.toString());
        }
        int top = random.nextInt(4) == 0 ? 15 : 5;
        String round = random.nextInt(top) + ":" + random.nextInt(top);
        boolean follows = model.pad.length() > 0 && Character.isDigit(model.pad.charAt(model.pad.length() - 1));
        return packed(follows ? "," + round : round);
    }

    private static void due(String run, String call, int got, int want) {
        GIVEN.merge(call.substring(0, call.indexOf('(')) + " " + (want < -1000 ? want : 0), 1, Integer::sum);
        if (got != want) {
            wrong++;
            if (wrong <= 40) {
                System.out.println(run + ": " + call + " answered " + got + ", due is " + want);
            }
        }
    }

    private static void change(BorrowedHours x, Model m, Random random, String run) {
        int a, b;
        switch (random.nextInt(12)) {
            case 0:
                a = draw(random, 0, 3);
                b = draw(random, 0, a == 0 ? 3 : a == 1 ? 2 : 1);
                due(run, "set(" + a + ", " + b + ")", x.set(a, b), m.set(a, b));
                break;
            case 1:
                a = draw(random, 0, 6);
                b = draw(random, 0, 6);
                due(run, "begin(" + a + ", " + b + ")", x.begin(a, b), m.begin(a, b));
                break;
            case 2:
            case 3:
                due(run, "play()", x.play(), m.play());
                break;
            case 4:
                due(run, "run()", x.run(), m.run());
                break;
            case 5:
                due(run, "undo()", x.undo(), m.undo());
                break;
            case 6:
                a = draw(random, 0, 1);
                due(run, "save(" + a + ")", x.save(a), m.save(a));
                break;
            case 7:
                a = draw(random, 0, 1);
                due(run, "restore(" + a + ")", x.restore(a), m.restore(a));
                break;
            default:
                a = draw(random, 0, Math.min(14, m.now.most(m.now.first)));
                b = draw(random, 0, Math.min(14, m.now.most(1 - m.now.first)));
                due(run, "round(" + a + ", " + b + ")", x.round(a, b), m.round(a, b));
                break;
        }
    }

    private static void ask(BorrowedHours x, Model m, Random random, String run) {
        int a = draw(random, 0, 1), b;
        switch (random.nextInt(8)) {
            case 0:
            case 1:
                b = draw(random, 0, 6);
                due(run, "player(" + a + ", " + b + ")", x.player(a, b), m.player(a, b));
                break;
            case 2:
                b = draw(random, 0, 11);
                due(run, "count(" + b + ")", x.count(b), m.count(b));
                break;
            case 3:
                b = draw(random, 0, 8);
                due(run, "forced(" + a + ", " + b + ")", x.forced(a, b), m.forced(a, b, 8));
                break;
            case 4:
                b = draw(random, 0, 3);
                due(run, "ahead(" + a + ", " + b + ")", x.ahead(a, b), m.forced(a, b, 3));
                break;
            case 5:
                due(run, "bestBid()", x.bestBid(), m.bestBid());
                b = draw(random, 0, Math.min(14, m.now.most(m.now.first)));
                due(run, "bestAnswer(" + b + ")", x.bestAnswer(b), m.bestAnswer(b));
                break;
            case 6:
                due(run, "keeps()", x.keeps(), m.keeps());
                break;
            default:
                due(run, "leastHours(" + a + ")", x.leastHours(a), m.leastHours(a));
                break;
        }
    }

    private static void write(BorrowedHours x, Model m, Random random, String run) {
        switch (random.nextInt(8)) {
            case 0:
                due(run, "wipe()", x.wipe(), m.wipe());
                break;
            case 1:
                due(run, "fault()", x.fault(), faultOf(m.pad));
                break;
            default:
                long characters = drawText(random, m);
                due(run, "put(" + characters + ")", x.put(characters), m.put(characters));
                break;
        }
    }

    /** Asks for all that there is, the last calls of a run. */
    private static void askAll(BorrowedHours x, Model m, String run) {
        for (int what = 0; what < 12; what++) {
            due(run, "count(" + what + ")", x.count(what), m.count(what));
        }
        for (int player = 0; player < 2; player++) {
            for (int what = 0; what < 7; what++) {
                due(run, "player(" + player + ", " + what + ")", x.player(player, what), m.player(player, what));
            }
        }
    }

    private static void runOf(int seed) {
        Random random = new Random(seed);
        BorrowedHours x = new BorrowedHours();
        Model m = new Model();
        String run = "seed " + seed;
        for (int call = 0; call < 235; call++) {
            int kind = random.nextInt(10);
            if (kind < 5) {
                change(x, m, random, run);
            } else if (kind < 8) {
                ask(x, m, random, run);
            } else {
                write(x, m, random, run);
            }
        }
        askAll(x, m, run);
    }

    /** A state, and the shortest way to it: the hours of a beginning, and then a bid and an answer for each round. */
    private static final class Reached {
        final State state;
        final int[] way;

        Reached(State state, int[] way) {
            this.state = state;
            this.way = way;
        }

        /** A state that a game can be in; what the players paid and won does not count here. */
        long place() {
            return key(state, 0, 0);
        }

        Reached behind(int bid, int answer) {
            int[] longer = Arrays.copyOf(way, way.length + 2);
            longer[way.length] = bid;
            longer[way.length + 1] = answer;
            return new Reached(RandomRunsTest.behind(state, bid, answer), longer);
        }
    }

    /** Every state that a game can be in, under all settings, with all questions. */
    private static void allStates() {
        int states = 0;
        for (int code = 0; code < 36; code++) {
            int[] setting = {1 + code % 3, code / 3 % 3, code / 9 % 2, code / 18};
            Map<Long, Reached> seen = new LinkedHashMap<>();
            Deque<Reached> open = new ArrayDeque<>();
            for (int hours = 0; hours < 49; hours++) {
                State s = new State();
                s.setting = setting;
                s.hours = new int[] {hours / 7, hours % 7};
                reach(new Reached(s, s.hours), seen, open);
            }
            while (!open.isEmpty()) {
                Reached r = open.removeFirst();
                for (int bid = 0; bid <= Math.min(14, r.state.most(r.state.first)); bid++) {
                    for (int answer = 0; answer <= Math.min(14, r.state.most(1 - r.state.first)); answer++) {
                        reach(r.behind(bid, answer), seen, open);
                    }
                }
            }
            askIn(setting, seen.values());
            states += seen.size();
        }
        System.out.println(states + " states");
    }

    /** A game that is over is a state as well, but nothing is behind it. */
    private static void reach(Reached r, Map<Long, Reached> seen, Deque<Reached> open) {
        if (seen.putIfAbsent(r.place(), r) == null && r.state.winner() == NONE) {
            open.addLast(r);
        }
    }

    private static void askIn(int[] setting, Iterable<Reached> all) {
        for (Reached r : all) {
            BorrowedHours x = new BorrowedHours();
            Model m = new Model();
            for (int i = 0; i < 4; i++) {
                due("settings", "set(" + i + ", " + setting[i] + ")", x.set(i, setting[i]), m.set(i, setting[i]));
            }
            String run = "settings " + Arrays.toString(setting) + ", hours and rounds " + Arrays.toString(r.way);
            due(run, "begin()", x.begin(r.way[0], r.way[1]), m.begin(r.way[0], r.way[1]));
            for (int i = 2; i < r.way.length; i += 2) {
                due(run, "round()", x.round(r.way[i], r.way[i + 1]), m.round(r.way[i], r.way[i + 1]));
            }
            askWhatIf(x, m, run);
            due(run, "play()", x.play(), m.play());
            askAll(x, m, run);
        }
    }

    private static void askWhatIf(BorrowedHours x, Model m, String run) {
        due(run, "bestBid()", x.bestBid(), m.bestBid());
        due(run, "keeps()", x.keeps(), m.keeps());
        for (int bid = 0; bid < 15; bid++) {
            due(run, "bestAnswer(" + bid + ")", x.bestAnswer(bid), m.bestAnswer(bid));
        }
        for (int player = 0; player < 2; player++) {
            due(run, "leastHours(" + player + ")", x.leastHours(player), m.leastHours(player));
            due(run, "player(" + player + ", 6)", x.player(player, 6), m.player(player, 6));
            for (int rounds = 0; rounds < 9; rounds++) {
                due(run, "forced(" + player + ", " + rounds + ")", x.forced(player, rounds), m.forced(player, rounds, 8));
                due(run, "ahead(" + player + ", " + rounds + ")", x.ahead(player, rounds), m.forced(player, rounds, 3));
            }
        }
    }

    public static void main(String[] args) {
        int seeds = args.length > 0 ? Integer.parseInt(args[0]) : 2000;
        for (int seed = 0; seed < seeds; seed++) {
            runOf(seed);
        }
        allStates();
        if (args.length > 0) {
            GIVEN.entrySet().stream().sorted(Map.Entry.comparingByKey()).forEach(System.out::println);
        }
        System.out.println(wrong == 0 ? "all answers are as due" : wrong + " answers are not as due");
        if (wrong != 0) {
            System.exit(1);
        }
    }
}
