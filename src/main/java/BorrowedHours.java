/**
 * A game of two players who bid hours for the rounds that move the hand of a dial.
 * The document ../shared/DOC.md says what each call does.
 */
public final class BorrowedHours {
    public static final int NO_SUCH = -1001, BAD_VALUE = -1002, BAD_TEXT = -1003, TOO_MANY = -1004, NOT_POSSIBLE = -1005, NONE = -1006;
    public static final int END = 0, LOAN = 1, PAYS = 2, TIE = 3;

    private static final int MOST_END = 3;
    private static final int MOST_LOAN = 2;
    private static final int MOST_HOURS = 6;
    private static final int FIRST_HOURS = 4;
    /** The most that a call or a text can name as a bid; a player may have more to bid than this. */
    private static final int MOST_BID = 14;
    private static final int MOST_ROUNDS = 8;
    private static final int MOST_AHEAD = 3;
    /** Stands for no time at all, and is longer than any time. */
    private static final int NEVER = MOST_ROUNDS + 1;
    private static final int MOST_SIGNS = 60;
    private static final int MOST_UNDO = 6;

    private final Game game;
    private final History history;
    private final Slot slotZero;
    private final Slot slotOne;
    private final Pad pad;
    private final Memory memory;
    private final Advice advice;
    private final Foresight foresight;

    public BorrowedHours() {
        game = new Game();
        history = new History();
        slotZero = new Slot();
        slotOne = new Slot();
        pad = new Pad();
        memory = new Memory();
        advice = new Advice(game);
        foresight = new Foresight(game);
    }

    // ---- changes

    public int set(int setting, int value) {
        if (!isSetting(setting) || value < leastSetting(setting) || value > mostSetting(setting)) {
            return BAD_VALUE;
        }
        int before = game.settingOf(setting);
        history.keepState(game);
        game.changeSetting(setting, value);
        game.startAnew();
        return before;
    }

    public int begin(int one, int other) {
        if (!isBetween(one, 0, MOST_HOURS) || !isBetween(other, 0, MOST_HOURS)) {
            return BAD_VALUE;
        }
        int before = game.rounds;
        history.keepState(game);
        game.zero.began = one;
        game.one.began = other;
        game.startAnew();
        return before;
    }

    public int round(int bid, int answer) {
        if (!isBetween(bid, 0, MOST_BID) || !isBetween(answer, 0, MOST_BID)) {
            return BAD_VALUE;
        }
        if (!game.allows(bid, answer)) {
            return NOT_POSSIBLE;
        }
        history.keepState(game);
        return game.playRound(bid, answer);
    }

    public int play() {
        if (game.isOver()) {
            return NOT_POSSIBLE;
        }
        Times times = timesNow();
        int bid = advice.findBid(times);
        int answer = advice.findAnswer(times, bid);
        history.keepState(game);
        return game.playRound(bid, answer);
    }

    public int run() {
        if (pad.firstFault() != NONE) {
            return BAD_TEXT;
        }
        history.keepState(game);
        int played = playPad();
        pad.clear();
        return played;
    }

    // ---- what there is; nothing changes

    public int player(int player, int what) {
        if (!isPlayer(player)) {
            return NO_SUCH;
        }
        Side side = game.sideOf(player);
        switch (what) {
            case 0:
                return side.hours;
            case 1:
                return game.mostOf(player);
            case 2:
                return side.began;
            case 3:
                return side.paid;
            case 4:
                return side.took;
            case 5:
                return side.won;
            case 6:
                int time = timeWith(player, game.mostOf(player));
                return time < NEVER ? time : NONE;
            default:
                return BAD_VALUE;
        }
    }

    public int count(int what) {
        if (isSetting(what)) {
            return game.settingOf(what);
        }
        switch (what) {
            case 4:
                return game.hand;
            case 5:
                return game.isOver() ? NONE : game.first;
            case 6:
                return game.rounds;
            case 7:
                return game.winner();
            case 8:
                return game.clock;
            case 9:
                return game.zero.won + game.one.won;
            case 10:
                return pad.length;
            case 11:
                return history.size;
            default:
                return BAD_VALUE;
        }
    }

    // ---- what if; nothing changes

    public int forced(int player, int rounds) {
        if (!isPlayer(player)) {
            return NO_SUCH;
        }
        if (!isBetween(rounds, 0, MOST_ROUNDS)) {
            return BAD_VALUE;
        }
        return timeWith(player, game.mostOf(player)) <= rounds ? 1 : 0;
    }

    public int ahead(int player, int rounds) {
        if (!isPlayer(player)) {
            return NO_SUCH;
        }
        if (!isBetween(rounds, 0, MOST_AHEAD)) {
            return BAD_VALUE;
        }
        return foresight.seesWinOf(player, rounds) ? 1 : 0;
    }

    public int bestBid() {
        if (game.isOver()) {
            return NOT_POSSIBLE;
        }
        return advice.findBid(timesNow());
    }

    public int bestAnswer(int bid) {
        if (!isBetween(bid, 0, MOST_BID)) {
            return BAD_VALUE;
        }
        if (!game.allows(bid, 0)) {
            return NOT_POSSIBLE;
        }
        return advice.findAnswer(timesNow(), bid);
    }

    public int keeps() {
        if (game.isOver()) {
            return NOT_POSSIBLE;
        }
        return advice.countKeeping(timesNow());
    }

    public int leastHours(int player) {
        if (!isPlayer(player)) {
            return NO_SUCH;
        }
        if (game.isOver()) {
            return NOT_POSSIBLE;
        }
        for (int hours = 0; hours <= MOST_HOURS; hours++) {
            if (timeWith(player, hours + game.loan) < NEVER) {
                return hours;
            }
        }
        return NONE;
    }

    // ---- texts

    public int put(long characters) {
        int added = Pad.countSigns(characters);
        if (added == 0) {
            return BAD_VALUE;
        }
        if (pad.length + added > MOST_SIGNS) {
            return TOO_MANY;
        }
        pad.append(characters, added);
        return pad.length;
    }

    public int wipe() {
        int before = pad.length;
        pad.clear();
        return before;
    }

    public int fault() {
        return pad.firstFault();
    }

    // ---- undo, saving

    public int undo() {
        if (history.size == 0) {
            return NOT_POSSIBLE;
        }
        history.takeBack(game);
        return history.size;
    }

    public int save(int slot) {
        if (!isSlot(slot)) {
            return BAD_VALUE;
        }
        Slot kept = slotOf(slot);
        kept.saved.copyFrom(game);
        kept.filled = true;
        return game.rounds;
    }

    public int restore(int slot) {
        if (!isSlot(slot)) {
            return BAD_VALUE;
        }
        Slot kept = slotOf(slot);
        if (!kept.filled) {
            return NOT_POSSIBLE;
        }
        history.keepState(game);
        game.copyFrom(kept.saved);
        return game.rounds;
    }

    // ---- helpers

    private static boolean isBetween(int value, int least, int most) {
        return value >= least && value <= most;
    }

    private static boolean isPlayer(int player) {
        return player == 0 || player == 1;
    }

    private static boolean isSlot(int slot) {
        return slot == 0 || slot == 1;
    }

    private static boolean isSetting(int setting) {
        return isBetween(setting, END, TIE);
    }

    private static int leastSetting(int setting) {
        return setting == END ? 1 : 0;
    }

    private static int mostSetting(int setting) {
        switch (setting) {
            case END:
                return MOST_END;
            case LOAN:
                return MOST_LOAN;
            default:
                return 1;
        }
    }

    private Slot slotOf(int slot) {
        return slot == 0 ? slotZero : slotOne;
    }

    /** The time of a player, if the most that it may bid were this, all else as it is. */
    private int timeWith(int player, int most) {
        int foe = game.mostOf(1 - player);
        Times times = memory.tableFor(game, most + foe);
        return times.timeAt(game.toWin(player), most, foe, player == game.first);
    }

    private Times timesNow() {
        return memory.tableFor(game, game.mostOf(0) + game.mostOf(1));
    }

    /** The pad has no fault here. */
    private int playPad() {
        int played = 0;
        int bid = 0;
        int number = 0;
        for (int i = 0; i <= pad.length; i++) {
            int sign = i < pad.length ? pad.signAt(i) : ',';
            if (sign == ':') {
                bid = number;
                number = 0;
            } else if (sign == ',') {
                if (!game.allows(bid, number)) {
                    return played;
                }
                game.playRound(bid, number);
                played++;
                number = 0;
            } else {
                number = number * 10 + sign - '0';
            }
        }
        return played;
    }

    /** What one player has, and what it did. */
    private static final class Side {
        int began = FIRST_HOURS;
        int hours = FIRST_HOURS;
        int paid;
        int took;
        int won;

        void copyFrom(Side other) {
            began = other.began;
            hours = other.hours;
            paid = other.paid;
            took = other.took;
            won = other.won;
        }

        void startAnew() {
            hours = began;
            paid = 0;
            took = 0;
        }
    }

    /** All that undo and the slots bring back: the settings, the game, and the games won before it. */
    private static final class Game {
        int end = 2;
        int loan;
        int pays;
        int tie;
        int hand;
        int first;
        int rounds;
        int clock;
        final Side zero = new Side();
        final Side one = new Side();

        void copyFrom(Game other) {
            end = other.end;
            loan = other.loan;
            pays = other.pays;
            tie = other.tie;
            hand = other.hand;
            first = other.first;
            rounds = other.rounds;
            clock = other.clock;
            zero.copyFrom(other.zero);
            one.copyFrom(other.one);
        }

        int settingOf(int setting) {
            switch (setting) {
                case END:
                    return end;
                case LOAN:
                    return loan;
                case PAYS:
                    return pays;
                default:
                    return tie;
            }
        }

        void changeSetting(int setting, int value) {
            switch (setting) {
                case END:
                    end = value;
                    break;
                case LOAN:
                    loan = value;
                    break;
                case PAYS:
                    pays = value;
                    break;
                default:
                    tie = value;
                    break;
            }
        }

        void startAnew() {
            hand = 0;
            first = 0;
            rounds = 0;
            clock = 0;
            zero.startAnew();
            one.startAnew();
        }

        Side sideOf(int player) {
            return player == 0 ? zero : one;
        }

        int winner() {
            if (hand >= end) {
                return 0;
            }
            return hand <= -end ? 1 : NONE;
        }

        boolean isOver() {
            return winner() != NONE;
        }

        /** The most that a player may bid. */
        int mostOf(int player) {
            return sideOf(player).hours + loan;
        }

        /** By how many cells the hand is away from a player's end. */
        int toWin(int player) {
            return player == 0 ? end - hand : end + hand;
        }

        /** What the one who does not take a round gets of a bid. */
        int gainOf(int price) {
            return pays == 0 ? price : 0;
        }

        int takerOf(int bid, int answer) {
            boolean firstTakes = bid > answer || bid == answer && tie == 0;
            return firstTakes ? first : 1 - first;
        }

        boolean allows(int bid, int answer) {
            return !isOver() && bid <= mostOf(first) && answer <= mostOf(1 - first);
        }

        int playRound(int bid, int answer) {
            int taker = takerOf(bid, answer);
            int price = taker == first ? bid : answer;
            Side paying = sideOf(taker);
            paying.hours -= price;
            paying.paid += price;
            paying.took++;
            int gain = gainOf(price);
            sideOf(1 - taker).hours += gain;
            clock += price - gain;
            hand += taker == 0 ? 1 : -1;
            first = 1 - first;
            rounds++;
            if (isOver()) {
                paying.won++;
            }
            return taker;
        }
    }

    private static final class Slot {
        final Game saved = new Game();
        boolean filled;
    }

    /** The states before the latest changes, the oldest one first. */
    private static final class History {
        private final Game[] states = new Game[MOST_UNDO];
        int size;

        void keepState(Game game) {
            if (size >= states.length) {
                dropOldest();
            }
            if (size >= 0 && size < states.length) {
                if (states[size] == null) {
                    states[size] = new Game();
                }
                states[size].copyFrom(game);
                size++;
            }
        }

        /** The object of the dropped state is used again for the next one. */
        private void dropOldest() {
            if (states.length == 0) {
                return;
            }
            Game oldest = states[0];
            for (int i = 1; i < states.length; i++) {
                states[i - 1] = states[i];
            }
            size = states.length - 1;
            states[size] = oldest;
        }

        void takeBack(Game game) {
            if (size > 0 && size <= states.length) {
                size--;
                Game state = states[size];
                if (state != null) {
                    game.copyFrom(state);
                }
            }
        }
    }

    /** The text that run() plays. */
    private static final class Pad {
        private static final int LEAST_CODE = 33;
        private static final int MOST_CODE = 126;
        private static final int SIGNS_AT_ONCE = 8;
        private static final int NO_DIGIT = 0;
        /** A 1 can be followed by another digit. */
        private static final int A_ONE = 1;
        private static final int FULL = 2;

        private final int[] signs = new int[MOST_SIGNS];
        int length;

        /** How many characters a number gives; 0 if it gives none, or is not as it has to be. */
        static int countSigns(long characters) {
            int number = 0;
            long rest = characters;
            while (number < SIGNS_AT_ONCE && rest != 0) {
                int code = (int) (rest & 255);
                if (code < LEAST_CODE || code > MOST_CODE) {
                    return 0;
                }
                rest = rest >>> 8;
                number++;
            }
            return number;
        }

        void append(long characters, int number) {
            for (int i = number - 1; i >= 0; i--) {
                if (length >= 0 && length < signs.length) {
                    signs[length] = (int) (characters >>> (8 * i) & 255);
                    length++;
                }
            }
        }

        void clear() {
            length = 0;
        }

        int signAt(int index) {
            return index >= 0 && index < signs.length ? signs[index] : 0;
        }

        int firstFault() {
            boolean inAnswer = false;
            int digits = NO_DIGIT;
            for (int i = 0; i < length; i++) {
                int sign = signAt(i);
                if (canStandAsDigit(sign, digits)) {
                    digits = sign == '1' && digits == NO_DIGIT ? A_ONE : FULL;
                } else if (digits != NO_DIGIT && sign == (inAnswer ? ',' : ':')) {
                    inAnswer = !inAnswer;
                    digits = NO_DIGIT;
                } else {
                    return i;
                }
            }
            return inAnswer && digits != NO_DIGIT ? NONE : length;
        }

        private static boolean canStandAsDigit(int sign, int digits) {
            if (digits == NO_DIGIT) {
                return sign >= '0' && sign <= '9';
            }
            return digits == A_ONE && sign >= '0' && sign <= '4';
        }
    }

    /**
     * The times in all states of some settings, each seen by one player: how far the hand is from its end, the
     * most that it and the other one may bid, and whether it bids first. Both players see alike, so one table
     * does for both. Of the loan nothing is left in it, since all that it does is to make the bids higher.
     */
    private static final class Times {
        private final int end;
        private final int tie;
        private final boolean sumStays;
        private final int top;
        /** The splits of what both may bid: the share of the one who sees, and that of the other one. */
        private final int[] owns;
        private final int[] foes;
        /** A row of all splits for each place of the hand, twice: for one who answers, and for one who bids first. */
        private final int[] times;

        /** top: what both may bid in all, if a bid is paid to the other one, otherwise the most for each. */
        Times(int end, int tie, boolean sumStays, int top) {
            this.end = end;
            this.tie = tie;
            this.sumStays = sumStays;
            this.top = top;
            int width = Math.max(0, sumStays ? top + 1 : (top + 1) * (top + 1));
            owns = new int[width];
            foes = new int[width];
            int split = 0;
            for (int own = 0; own <= top; own++) {
                int most = sumStays ? top - own : top;
                for (int foe = sumStays ? most : 0; foe <= most && split < width; foe++) {
                    owns[split] = own;
                    foes[split] = foe;
                    split++;
                }
            }
            times = new int[Math.max(0, (4 * end + 2) * width)];
            for (int i = 0; i < times.length; i++) {
                times[i] = i < 2 * width ? 0 : NEVER;
            }
        }

        int timeAt(int toWin, int own, int foe, boolean bidsFirst) {
            if (own < 0 || own > top || foe < 0 || foe > top) {
                return NEVER;
            }
            int row = 2 * toWin + (bidsFirst ? 1 : 0);
            int index = row * owns.length + (sumStays ? own : own * (top + 1) + foe);
            return index >= 0 && index < times.length ? times[index] : NEVER;
        }

        void learnAll() {
            boolean more = true;
            for (int rounds = 1; rounds <= MOST_ROUNDS && more; rounds++) {
                more = learnRounds(rounds);
            }
        }

        /** Finds the states whose time this is; if there are none, there are none with a longer one. */
        private boolean learnRounds(int rounds) {
            boolean more = false;
            for (int row = 2; row < 4 * end; row++) {
                for (int split = 0; split < owns.length && split < foes.length; split++) {
                    int index = row * owns.length + split;
                    if (index < times.length && times[index] == NEVER) {
                        boolean forces = row % 2 == 1
                                ? bidForces(rounds - 1, row / 2, owns[split], foes[split])
                                : answerForces(rounds - 1, row / 2, owns[split], foes[split]);
                        times[index] = forces ? rounds : NEVER;
                        more = more || forces;
                    }
                }
            }
            return more;
        }

        /**
         * An answer that takes the round leads to the same state whatever was bid. So the greatest answer that
         * leaves no win tells how much has to be bid, and of the answers that take nothing one speaks for all.
         */
        private boolean bidForces(int left, int toWin, int own, int foe) {
            int bad = foe;
            while (bad >= 0 && lost(left, toWin, own, foe, bad, false)) {
                bad--;
            }
            for (int bid = Math.max(0, bad + tie); bid <= own; bid++) {
                if (neverTakes(bid) || taken(left, toWin, own, foe, bid, false)) {
                    return true;
                }
            }
            return false;
        }

        /** The greatest answer that keeps the win tells up to which bid there is one. */
        private boolean answerForces(int left, int toWin, int own, int foe) {
            int good = own;
            while (good >= 0 && !taken(left, toWin, own, foe, good, true)) {
                good--;
            }
            for (int bid = Math.max(0, good + tie); bid <= foe; bid++) {
                if (neverTakes(bid) || !lost(left, toWin, own, foe, bid, true)) {
                    return false;
                }
            }
            return true;
        }

        /** Whether no answer is so low that the bid takes the round. */
        private boolean neverTakes(int bid) {
            return bid == 0 && tie == 1;
        }

        /** Whether the player can force a win in the rounds left, when it has taken a round for a price. */
        private boolean taken(int left, int toWin, int own, int foe, int price, boolean bidsFirst) {
            int gain = sumStays ? price : 0;
            return timeAt(toWin - 1, own - price, foe + gain, bidsFirst) <= left;
        }

        /** The same, when the other one has taken it. */
        private boolean lost(int left, int toWin, int own, int foe, int price, boolean bidsFirst) {
            int gain = sumStays ? price : 0;
            return timeAt(toWin + 1, own + gain, foe - price, bidsFirst) <= left;
        }
    }

    /** Remembers the tables of times that were asked for, whatever the settings are by now. */
    private static final class Memory {
        /**
         * One player may have got all hours that both began with while the other one borrowed, and the least hours
         * of the other one are tried from 0 to 6.
         */
        private static final int MOST_SUM = 2 * (MOST_HOURS + MOST_LOAN) + MOST_HOURS + MOST_LOAN;
        private static final int KINDS = MOST_SUM + 2;

        private final Times[] tables = new Times[MOST_END * 2 * KINDS];

        /** The table for a game's settings, and for what both may bid in all. */
        Times tableFor(Game game, int sum) {
            boolean sumStays = game.pays == 0;
            int top = sumStays ? Math.max(0, Math.min(sum, MOST_SUM)) : MOST_HOURS + MOST_LOAN;
            int kind = sumStays ? top : KINDS - 1;
            int index = ((game.end - 1) * 2 + game.tie) * KINDS + kind;
            boolean hasPlace = index >= 0 && index < tables.length;
            Times known = hasPlace ? tables[index] : null;
            if (known != null) {
                return known;
            }
            Times table = new Times(game.end, game.tie, sumStays, top);
            table.learnAll();
            if (hasPlace) {
                tables[index] = table;
            }
            return table;
        }
    }

    /** Finds the best bids for the next round of a game that is not over; the times are those of its table. */
    private static final class Advice {
        private final Game game;

        Advice(Game game) {
            this.game = game;
        }

        int findBid(Times times) {
            int best = 0;
            int least = NEVER;
            int most = game.mostOf(game.first);
            for (int bid = 0; bid <= most; bid++) {
                int time = longestOwn(times, bid);
                if (time < least) {
                    best = bid;
                    least = time;
                }
            }
            return least < NEVER ? best : findDelay(times);
        }

        /** The bid that holds up the other one longest. */
        private int findDelay(Times times) {
            int best = 0;
            int longest = -1;
            int most = game.mostOf(game.first);
            for (int bid = 0; bid <= most; bid++) {
                int time = leastOther(times, bid);
                if (time > longest) {
                    best = bid;
                    longest = time;
                }
            }
            return best;
        }

        int findAnswer(Times times, int bid) {
            int best = 0;
            int least = NEVER;
            int slowest = 0;
            int longest = -1;
            int most = game.mostOf(1 - game.first);
            for (int answer = 0; answer <= most; answer++) {
                int own = timeBehind(times, 1 - game.first, bid, answer);
                if (own < least) {
                    best = answer;
                    least = own;
                }
                int foe = timeBehind(times, game.first, bid, answer);
                if (foe > longest) {
                    slowest = answer;
                    longest = foe;
                }
            }
            return least < NEVER ? best : slowest;
        }

        int countKeeping(Times times) {
            int keeping = 0;
            int most = game.mostOf(game.first);
            for (int bid = 0; bid <= most; bid++) {
                if (longestOwn(times, bid) < NEVER) {
                    keeping++;
                }
            }
            return keeping;
        }

        /** The longest time of the first bidder behind a bid, over all answers. */
        private int longestOwn(Times times, int bid) {
            int longest = 0;
            int most = game.mostOf(1 - game.first);
            for (int answer = 0; answer <= most; answer++) {
                longest = Math.max(longest, timeBehind(times, game.first, bid, answer));
            }
            return longest;
        }

        /** The least time of the other one behind a bid, over all answers. */
        private int leastOther(Times times, int bid) {
            int least = NEVER;
            int most = game.mostOf(1 - game.first);
            for (int answer = 0; answer <= most; answer++) {
                least = Math.min(least, timeBehind(times, 1 - game.first, bid, answer));
            }
            return least;
        }

        /** The time of a player behind the next round, which itself is one of the rounds that a win may take. */
        private int timeBehind(Times times, int player, int bid, int answer) {
            int taker = game.takerOf(bid, answer);
            int price = taker == game.first ? bid : answer;
            int gain = game.gainOf(price);
            boolean takes = taker == player;
            int toWin = game.toWin(player) + (takes ? -1 : 1);
            int own = game.mostOf(player) + (takes ? -price : gain);
            int foe = game.mostOf(1 - player) + (takes ? gain : -price);
            int time = times.timeAt(toWin, own, foe, player != game.first);
            return time < MOST_ROUNDS ? time : NEVER;
        }
    }

    /** Looks ahead round by round, and remembers nothing. A state is seen by one player, as in Times. */
    private static final class Foresight {
        private final Game game;

        Foresight(Game game) {
            this.game = game;
        }

        boolean seesWinOf(int player, int rounds) {
            int own = game.mostOf(player);
            int foe = game.mostOf(1 - player);
            return seesWin(Math.min(rounds, MOST_AHEAD), game.toWin(player), own, foe, player == game.first);
        }

        /** The rounds are the depth: each level has one less, and none goes on when the end is too far for them. */
        private boolean seesWin(int rounds, int toWin, int own, int foe, boolean bidsFirst) {
            if (toWin <= 0) {
                return true;
            }
            if (rounds <= 0 || rounds < toWin || toWin >= 2 * game.end) {
                return false;
            }
            return bidsFirst ? seesBid(rounds, toWin, own, foe) : seesAnswers(rounds, toWin, own, foe);
        }

        private boolean seesBid(int rounds, int toWin, int own, int foe) {
            for (int bid = 0; bid <= own; bid++) {
                if (standsAllAnswers(rounds, toWin, own, foe, bid)) {
                    return true;
                }
            }
            return false;
        }

        private boolean standsAllAnswers(int rounds, int toWin, int own, int foe, int bid) {
            if (canTake(bid) && !seesTaken(rounds, toWin, own, foe, bid, false)) {
                return false;
            }
            for (int answer = leastTaking(bid); answer <= foe; answer++) {
                if (!seesLost(rounds, toWin, own, foe, answer, false)) {
                    return false;
                }
            }
            return true;
        }

        private boolean seesAnswers(int rounds, int toWin, int own, int foe) {
            for (int bid = 0; bid <= foe; bid++) {
                if (!hasAnswer(rounds, toWin, own, foe, bid)) {
                    return false;
                }
            }
            return true;
        }

        private boolean hasAnswer(int rounds, int toWin, int own, int foe, int bid) {
            if (canTake(bid) && seesLost(rounds, toWin, own, foe, bid, true)) {
                return true;
            }
            for (int answer = leastTaking(bid); answer <= own; answer++) {
                if (seesTaken(rounds, toWin, own, foe, answer, true)) {
                    return true;
                }
            }
            return false;
        }

        /** Whether the first bidder takes the round if the other one bids nothing. */
        private boolean canTake(int bid) {
            return bid > 0 || game.tie == 0;
        }

        private int leastTaking(int bid) {
            return game.tie == 0 ? bid + 1 : bid;
        }

        private boolean seesTaken(int rounds, int toWin, int own, int foe, int price, boolean bidsFirst) {
            return seesWin(rounds - 1, toWin - 1, own - price, foe + game.gainOf(price), bidsFirst);
        }

        private boolean seesLost(int rounds, int toWin, int own, int foe, int price, boolean bidsFirst) {
            return seesWin(rounds - 1, toWin + 1, own + game.gainOf(price), foe - price, bidsFirst);
        }
    }
}
