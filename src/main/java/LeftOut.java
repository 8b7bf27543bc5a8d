/** Bargains with few words: what fills the gaps that are left in them, by orders that are told. */
public final class LeftOut {
    public static final int UNKNOWN = -1, BAD = -2, LATE = -3, FULL = -4, NONE = -9;

    private static final int GAPS = 6, MOST_VALUE = 5, BASE = 6, FILLINGS = 46656;
    private static final int PEOPLE = 5, TRADES = 3, SIDES = 2, ORDERS = 4, SLOTS = 2;
    private static final int MOST_DOINGS = 24, MOST_BYTES = 24, MOST_RULES = 12, MOST_BARGAINS = 8;

    private static final int TIMES = 0, LEAST = 1, SHARE = 2;
    private static final int[] TERMS_AT_FIRST = {2, 3, 60};
    private static final int[] TERMS_LOWEST = {1, 1, 51};
    private static final int[] TERMS_HIGHEST = {5, 9, 100};
    private static final int MOST_LACKING = 99;

    private static final String RULE_LETTERS = "LBM";
    private static final int LAW = 0, BOUND = 1, MEANT = 2;
    // W, D, C and L; the last one, M, is what is left
    private static final String ORDER_LETTERS = "WDCLM";
    private static final int WORDS = 0, BEFORE = 1, CUSTOM = 2, LAWS = 3;
    private static final int CROSSABLE = 1 << BEFORE | 1 << CUSTOM | 1 << LAWS;

    private static final int BY_NOTHING = 0, BY_SAYINGS = 1, BY_BEFORE = 2, BY_CUSTOM = 3;
    private static final int BY_TURNS = 4, BY_RULES = 10;

    private final Gaps gaps = new Gaps();
    private final int[] terms = TERMS_AT_FIRST.clone();
    private final Doings doings = new Doings();
    private final Doings[] slots = new Doings[SLOTS];
    private final boolean[] kept = new boolean[SLOTS];
    private final Text text = new Text();
    private final Rules rules = new Rules();
    private final Order[] orders = new Order[ORDERS];
    private final Bargain[] bargains = new Bargain[MOST_BARGAINS];
    private int bargainCount = 0;
    private final Order spareOrder = new Order();
    private final Sayings spareSayings = new Sayings();
    private final Reading reading = new Reading(gaps, terms, rules);

    public LeftOut() {
        for (int i = 0; i < SLOTS; i++) {
            slots[i] = new Doings();
        }
        for (int i = 0; i < ORDERS; i++) {
            orders[i] = new Order();
        }
        for (int i = 0; i < MOST_BARGAINS; i++) {
            bargains[i] = new Bargain();
        }
    }

    // ---- gaps, doings

    public int gap(int gap, int k) {
        if (!isGap(gap)) {
            return UNKNOWN;
        }
        if (k < 0 || k > MOST_VALUE) {
            return BAD;
        }
        int was = gaps.values[gap];
        gaps.values[gap] = k;
        return was;
    }

    public int need(int gap, boolean is) {
        if (!isGap(gap)) {
            return UNKNOWN;
        }
        int was = bit(gaps.needed, gap);
        gaps.needed = withBit(gaps.needed, gap, is);
        return was;
    }

    public int hang(int gap, int on, int v) {
        if (!isGap(gap) || on != NONE && !isGap(on)) {
            return UNKNOWN;
        }
        if (on != NONE && !isValue(v)) {
            return BAD;
        }
        if (on == gap) {
            return LATE;
        }
        int was = gaps.on[gap];
        gaps.on[gap] = on;
        gaps.when[gap] = v;
        return was;
    }

    public int doing(int a, int b, int trade, int gap, int v, boolean objected) {
        if (!isPerson(a) || !isPerson(b) || !isTrade(trade) || !isGap(gap)) {
            return UNKNOWN;
        }
        if (!isValue(v) || a == b) {
            return BAD;
        }
        if (doings.size >= MOST_DOINGS) {
            return FULL;
        }
        int number = doings.size;
        doings.add(a, b, trade, gap, v, objected);
        return number;
    }

    public int undo() {
        if (doings.size == 0) {
            return LATE;
        }
        doings.size--;
        return doings.size;
    }

    public int tell(int person, int trade, boolean is) {
        if (!isPerson(person) || !isTrade(trade)) {
            return UNKNOWN;
        }
        int place = person * TRADES + trade;
        int was = bit(doings.told, place);
        doings.told = withBit(doings.told, place, is);
        return was;
    }

    public int term(int what, int v) {
        if (what < TIMES || what > SHARE) {
            return BAD;
        }
        if (v < TERMS_LOWEST[what] || v > TERMS_HIGHEST[what]) {
            return BAD;
        }
        int was = terms[what];
        terms[what] = v;
        return was;
    }

    public int knows(int person, int trade) {
        if (!isPerson(person) || !isTrade(trade)) {
            return UNKNOWN;
        }
        return doings.isKnown(person, trade) ? 1 : 0;
    }

    public int before(int a, int b, int gap) {
        if (!isPerson(a) || !isPerson(b) || !isGap(gap)) {
            return UNKNOWN;
        }
        if (a == b) {
            return BAD;
        }
        return doings.valueBefore(a, b, gap, terms[TIMES]);
    }

    public int custom(int trade, int gap) {
        if (!isTrade(trade) || !isGap(gap)) {
            return UNKNOWN;
        }
        return doings.customOf(trade, gap, terms);
    }

    public int lacks(int trade, int gap, int v) {
        if (!isTrade(trade) || !isGap(gap)) {
            return UNKNOWN;
        }
        if (!isValue(v)) {
            return BAD;
        }
        return doings.lacking(trade, gap, v, terms);
    }

    // ---- texts

    public int write(int n, long v) {
        if (n < 1 || n > 8) {
            return BAD;
        }
        if (text.length + n > MOST_BYTES) {
            return FULL;
        }
        text.append(n, v);
        return text.length;
    }

    public int wipe() {
        int was = text.length;
        text.length = 0;
        return was;
    }

    public int fault(int kind) {
        switch (kind) {
            case 0:
                return rules.spare().readFrom(text);
            case 1:
                return spareOrder.readFrom(text);
            case 2:
                return spareSayings.readFrom(text);
            default:
                return UNKNOWN;
        }
    }

    public int rule() {
        if (rules.spare().readFrom(text) != NONE) {
            return LATE;
        }
        if (rules.size >= MOST_RULES) {
            return FULL;
        }
        rules.size++;
        return rules.size - 1;
    }

    public int unrule(int rule) {
        if (!isRule(rule)) {
            return UNKNOWN;
        }
        rules.remove(rule);
        return rules.size;
    }

    public int ruled(int rule, int what) {
        if (!isRule(rule)) {
            return UNKNOWN;
        }
        return rules.rows[rule].tells(what);
    }

    public int order(int order) {
        if (!isOrder(order)) {
            return UNKNOWN;
        }
        if (spareOrder.readFrom(text) != NONE) {
            return LATE;
        }
        orders[order].copy(spareOrder);
        return spareOrder.size;
    }

    public int ordered(int order, int i) {
        if (!isOrder(order)) {
            return UNKNOWN;
        }
        return i >= 0 && i < orders[order].size ? orders[order].letters[i] : NONE;
    }

    public int bargain(int a, int b, int trade) {
        if (!isPerson(a) || !isPerson(b) || !isTrade(trade)) {
            return UNKNOWN;
        }
        if (a == b) {
            return BAD;
        }
        if (spareSayings.readFrom(text) != NONE) {
            return LATE;
        }
        if (bargainCount >= MOST_BARGAINS) {
            return FULL;
        }
        bargains[bargainCount].strike(a, b, trade, spareSayings);
        bargainCount++;
        return bargainCount - 1;
    }

    public int reword(int bargain) {
        if (!isBargain(bargain)) {
            return UNKNOWN;
        }
        if (spareSayings.readFrom(text) != NONE) {
            return LATE;
        }
        bargains[bargain].sayings.copy(spareSayings);
        return spareSayings.gapCount();
    }

    public int said(int bargain, int gap) {
        if (!isBargain(bargain) || !isGap(gap)) {
            return UNKNOWN;
        }
        return bargains[bargain].sayings.values[gap];
    }

    // ---- read

    public int next(int bargain, int order, int filling) {
        if (!canRead(bargain, order)) {
            return UNKNOWN;
        }
        if (!isFilling(filling)) {
            return BAD;
        }
        reading.take(bargains[bargain], doings);
        reading.plan(orders[order]);
        return reading.follow(filling);
    }

    public int rounds(int bargain, int order, boolean ring) {
        if (!canRead(bargain, order)) {
            return UNKNOWN;
        }
        read(bargain, order);
        return ring ? reading.ring : reading.rounds;
    }

    public int answer(int bargain, int order) {
        if (!canRead(bargain, order)) {
            return UNKNOWN;
        }
        read(bargain, order);
        return reading.answer;
    }

    public int fills(int bargain, int order, int gap) {
        if (!canRead(bargain, order) || !isGap(gap)) {
            return UNKNOWN;
        }
        read(bargain, order);
        return valueAt(reading.answer, gap);
    }

    public int reason(int bargain, int order, int gap) {
        if (!canRead(bargain, order) || !isGap(gap)) {
            return UNKNOWN;
        }
        read(bargain, order);
        return reading.reasonOf(gap);
    }

    public int open(int bargain, int order, boolean turns) {
        if (!canRead(bargain, order)) {
            return UNKNOWN;
        }
        read(bargain, order);
        return turns ? reading.turns : reading.stillOpen();
    }

    public int holds(int bargain, int order) {
        if (!canRead(bargain, order)) {
            return UNKNOWN;
        }
        read(bargain, order);
        int unsettled = reading.stillOpen() | reading.turns;
        return (unsettled & gaps.needed) == 0 ? 1 : 0;
    }

    public int judge(int bargain, int order, int filling) {
        if (!canRead(bargain, order)) {
            return UNKNOWN;
        }
        if (!isFilling(filling)) {
            return BAD;
        }
        read(bargain, order);
        int wrong = unlike(filling, reading.answer);
        return wrong == 0 ? NONE : Integer.numberOfTrailingZeros(wrong);
    }

    // ---- orders

    public int differ(int bargain, int order, int other) {
        if (!canRead(bargain, order) || !isOrder(other)) {
            return UNKNOWN;
        }
        read(bargain, order);
        int answer = reading.answer;
        reading.read(orders[other]);
        return unlike(answer, reading.answer);
    }

    public int step(int bargain, int order) {
        if (!canRead(bargain, order)) {
            return UNKNOWN;
        }
        read(bargain, order);
        int answer = reading.answer;
        int place = NONE;
        int most = 0;
        for (int i = 0; i + 1 < orders[order].size; i++) {
            int moved = movedBy(orders[order], i, answer);
            if (moved > most) {
                most = moved;
                place = i;
            }
        }
        return place;
    }

    public int moves(int bargain, int order) {
        if (!canRead(bargain, order)) {
            return UNKNOWN;
        }
        read(bargain, order);
        int answer = reading.answer;
        int most = 0;
        for (int i = 0; i + 1 < orders[order].size; i++) {
            most = Math.max(most, movedBy(orders[order], i, answer));
        }
        return most;
    }

    // ---- thoughts

    public int think(int bargain, int side, int gap, int v) {
        if (!isBargain(bargain) || !isGap(gap)) {
            return UNKNOWN;
        }
        if (!isSide(side) || v < 0 || v > MOST_VALUE) {
            return BAD;
        }
        int was = bargains[bargain].thoughts[side][gap];
        bargains[bargain].thoughts[side][gap] = v;
        return was;
    }

    public int part(int bargain) {
        if (!isBargain(bargain)) {
            return UNKNOWN;
        }
        return bargains[bargain].parted();
    }

    public int far(int bargain, int order, int side) {
        if (!canRead(bargain, order)) {
            return UNKNOWN;
        }
        if (!isSide(side)) {
            return BAD;
        }
        read(bargain, order);
        return bargains[bargain].farFrom(side, reading.answer);
    }

    public int words(int bargain, int orders) {
        if (!isBargain(bargain)) {
            return UNKNOWN;
        }
        if (orders < 1 || orders >= 1 << ORDERS) {
            return BAD;
        }
        reading.take(bargains[bargain], doings);
        int sayable = bargains[bargain].sayable();
        for (int size = 0; size <= GAPS; size++) {
            for (int set = 0; set < 1 << GAPS; set++) {
                boolean may = Integer.bitCount(set) == size && (set & ~sayable) == 0;
                if (may && isAsThought(bargains[bargain], set, orders)) {
                    return set;
                }
            }
        }
        return NONE;
    }

    public int worth(int order, int gap, int v) {
        if (!isOrder(order) || !isGap(gap)) {
            return UNKNOWN;
        }
        if (!isValue(v)) {
            return BAD;
        }
        return worthOf(order, gap, v);
    }

    public int best(int order, int gap) {
        if (!isOrder(order) || !isGap(gap)) {
            return UNKNOWN;
        }
        int best = NONE;
        int greatest = -1;
        for (int v = 1; v <= gaps.values[gap]; v++) {
            int worth = worthOf(order, gap, v);
            if (worth > greatest) {
                greatest = worth;
                best = v;
            }
        }
        return best;
    }

    // ---- slots

    public int keep(int slot) {
        if (!isSlot(slot)) {
            return UNKNOWN;
        }
        slots[slot].copy(doings);
        kept[slot] = true;
        return doings.size;
    }

    public int again(int slot) {
        if (!isSlot(slot)) {
            return UNKNOWN;
        }
        if (!kept[slot]) {
            return LATE;
        }
        doings.copy(slots[slot]);
        return doings.size;
    }

    public int since(int order, int slot) {
        if (!isOrder(order) || !isSlot(slot)) {
            return UNKNOWN;
        }
        if (!kept[slot]) {
            return LATE;
        }
        int changed = 0;
        for (int i = 0; i < bargainCount; i++) {
            read(i, order);
            int answer = reading.answer;
            reading.take(bargains[i], slots[slot]);
            reading.read(orders[order]);
            if (reading.answer != answer) {
                changed++;
            }
        }
        return changed;
    }

    public int count(int what) {
        switch (what) {
            case 0:
                return gaps.present();
            case 1:
                return doings.size;
            case 2:
                return text.length;
            case 3:
                return rules.size;
            case 4:
                return bargainCount;
            default:
                return BAD;
        }
    }

    // ---- what the calls share

    private void read(int bargain, int order) {
        reading.take(bargains[bargain], doings);
        reading.read(orders[order]);
    }

    /** At how many gaps the bargain at hand is answered otherwise, if two letters change places. */
    private int movedBy(Order order, int place, int answer) {
        spareOrder.copy(order);
        spareOrder.swap(place);
        reading.read(spareOrder);
        return Integer.bitCount(unlike(answer, reading.answer));
    }

    /** Whether, with the thoughts at a set of gaps said too, no side is far by any of the orders. */
    private boolean isAsThought(Bargain bargain, int set, int orderSet) {
        reading.sayToo(bargain, set);
        for (int i = 0; i < ORDERS; i++) {
            if (bit(orderSet, i) == 1) {
                reading.read(orders[i]);
                int far = bargain.farFrom(0, reading.answer) | bargain.farFrom(1, reading.answer);
                if (far != 0) {
                    return false;
                }
            }
        }
        return true;
    }

    private int worthOf(int order, int gap, int v) {
        reading.lawGap = gap;
        reading.lawValue = v;
        int worth = 0;
        for (int i = 0; i < bargainCount; i++) {
            int thought = bargains[i].commonThought(gap);
            if (thought != 0) {
                reading.take(bargains[i], doings);
                reading.read(orders[order]);
                worth += valueAt(reading.answer, gap) == thought ? 1 : 0;
            }
        }
        reading.lawGap = NONE;
        return worth;
    }

    private boolean canRead(int bargain, int order) {
        return isBargain(bargain) && isOrder(order);
    }

    private boolean isBargain(int bargain) {
        return bargain >= 0 && bargain < bargainCount;
    }

    private boolean isRule(int rule) {
        return rule >= 0 && rule < rules.size;
    }

    private static boolean isGap(int gap) {
        return gap >= 0 && gap < GAPS;
    }

    private static boolean isValue(int value) {
        return value >= 1 && value <= MOST_VALUE;
    }

    private static boolean isPerson(int person) {
        return person >= 0 && person < PEOPLE;
    }

    private static boolean isTrade(int trade) {
        return trade >= 0 && trade < TRADES;
    }

    private static boolean isOrder(int order) {
        return order >= 0 && order < ORDERS;
    }

    private static boolean isSide(int side) {
        return side >= 0 && side < SIDES;
    }

    private static boolean isSlot(int slot) {
        return slot >= 0 && slot < SLOTS;
    }

    private static boolean isFilling(int filling) {
        return filling >= 0 && filling < FILLINGS;
    }

    private static int bit(int bits, int place) {
        return bits >> place & 1;
    }

    private static int withBit(int bits, int place, boolean is) {
        return is ? bits | 1 << place : bits & ~(1 << place);
    }

    /** The figure that a sign is, NONE if it is none from least to most. */
    private static int figure(char sign, int least, int most) {
        int value = sign - '0';
        return value >= least && value <= most ? value : NONE;
    }

    private static int valueAt(int filling, int gap) {
        int rest = filling;
        for (int i = GAPS - 1; i > gap; i--) {
            rest /= BASE;
        }
        return rest % BASE;
    }

    private static void spread(int filling, int[] row) {
        int rest = filling;
        for (int i = row.length - 1; i >= 0; i--) {
            row[i] = rest % BASE;
            rest /= BASE;
        }
    }

    /** The gaps at which two fillings have not the same, as bits. */
    private static int unlike(int filling, int other) {
        int bits = 0;
        int rest = filling;
        int otherRest = other;
        for (int i = GAPS - 1; i >= 0; i--) {
            if (rest % BASE != otherRest % BASE) {
                bits |= 1 << i;
            }
            rest /= BASE;
            otherRest /= BASE;
        }
        return bits;
    }

    /** How many values each gap has, which are needed (as bits), and on what each hangs. */
    private static final class Gaps {
        final int[] values = new int[GAPS];
        int needed = 0;
        final int[] on = new int[GAPS];
        final int[] when = new int[GAPS];

        Gaps() {
            for (int i = 0; i < GAPS; i++) {
                on[i] = NONE;
            }
        }

        boolean isAsked(int gap, int[] filling) {
            int other = on[gap];
            return values[gap] > 0 && (!isGap(other) || filling[other] == when[gap]);
        }

        int present() {
            int found = 0;
            for (int k : values) {
                found += k > 0 ? 1 : 0;
            }
            return found;
        }
    }

    /** What was done, in order, and who is told to know which trade: what a slot keeps. */
    private static final class Doings {
        private final int[] one = new int[MOST_DOINGS];
        private final int[] two = new int[MOST_DOINGS];
        private final int[] trades = new int[MOST_DOINGS];
        private final int[] at = new int[MOST_DOINGS];
        private final int[] values = new int[MOST_DOINGS];
        private final boolean[] objected = new boolean[MOST_DOINGS];
        int size = 0;
        /** A bit for each person and trade. */
        int told = 0;
        private final int[] tally = new int[MOST_VALUE + 1];

        void add(int a, int b, int trade, int gap, int v, boolean wasObjected) {
            if (size >= MOST_DOINGS) {
                return;
            }
            one[size] = a;
            two[size] = b;
            trades[size] = trade;
            at[size] = gap;
            values[size] = v;
            objected[size] = wasObjected;
            size++;
        }

        void copy(Doings other) {
            System.arraycopy(other.one, 0, one, 0, MOST_DOINGS);
            System.arraycopy(other.two, 0, two, 0, MOST_DOINGS);
            System.arraycopy(other.trades, 0, trades, 0, MOST_DOINGS);
            System.arraycopy(other.at, 0, at, 0, MOST_DOINGS);
            System.arraycopy(other.values, 0, values, 0, MOST_DOINGS);
            System.arraycopy(other.objected, 0, objected, 0, MOST_DOINGS);
            size = other.size;
            told = other.told;
        }

        boolean isKnown(int person, int trade) {
            if (bit(told, person * TRADES + trade) == 1) {
                return true;
            }
            for (int i = 0; i < size; i++) {
                if (trades[i] == trade && (one[i] == person || two[i] == person)) {
                    return true;
                }
            }
            return false;
        }

        int valueBefore(int a, int b, int gap, int times) {
            int value = 0;
            int found = 0;
            for (int i = size - 1; i >= 0 && found < times; i--) {
                if (at[i] == gap && isOfTwo(i, a, b)) {
                    if (objected[i] || found > 0 && values[i] != value) {
                        return 0;
                    }
                    value = values[i];
                    found++;
                }
            }
            return found == times ? value : 0;
        }

        private boolean isOfTwo(int i, int a, int b) {
            return one[i] == a && two[i] == b || one[i] == b && two[i] == a;
        }

        int customOf(int trade, int gap, int[] terms) {
            int all = tallyUp(trade, gap);
            for (int v = 1; v <= MOST_VALUE; v++) {
                if (isCustom(tally[v], all, terms)) {
                    return v;
                }
            }
            return 0;
        }

        int lacking(int trade, int gap, int v, int[] terms) {
            int all = tallyUp(trade, gap);
            for (int more = 0; more <= MOST_LACKING; more++) {
                if (isCustom(tally[v] + more, all + more, terms)) {
                    return more;
                }
            }
            return NONE;
        }

        private static boolean isCustom(int own, int all, int[] terms) {
            return all >= terms[LEAST] && own * 100 >= terms[SHARE] * all;
        }

        /** How many doings of a trade there are at a gap; the tally has those not objected to, by value. */
        private int tallyUp(int trade, int gap) {
            for (int v = 0; v <= MOST_VALUE; v++) {
                tally[v] = 0;
            }
            int all = 0;
            for (int i = 0; i < size; i++) {
                if (trades[i] == trade && at[i] == gap) {
                    all++;
                    tally[values[i]] += objected[i] ? 0 : 1;
                }
            }
            return all;
        }
    }

    /** THE TEXT. */
    private static final class Text {
        final char[] signs = new char[MOST_BYTES];
        int length = 0;

        void append(int n, long v) {
            for (int i = n - 1; i >= 0 && length < MOST_BYTES; i--) {
                signs[length] = (char) (v >> 8 * i & 255);
                length++;
            }
        }
    }

    /** What can be read from THE TEXT, sign by sign, from state to state (0 at first). */
    private abstract static class Written {
        abstract void clear();

        /** The state behind one sign more; NONE, if nothing that came behind it could mend it. */
        abstract int accept(int state, char sign);

        abstract boolean isWhole(int state);

        /** Becomes what the text says; answers the text's FAULT. */
        final int readFrom(Text text) {
            clear();
            int state = 0;
            for (int i = 0; i < text.length && i < MOST_BYTES; i++) {
                state = accept(state, text.signs[i]);
                if (state == NONE) {
                    return i;
                }
            }
            return isWhole(state) ? NONE : text.length;
        }
    }

    private static final class Rule extends Written {
        private static final int LETTER = 0, GAP = 1, EQUALS = 2, VALUE = 3, BEHIND_VALUE = 4;
        private static final int IF_GAP = 5, IF_EQUALS = 6, IF_VALUE = 7, BEHIND_IF = 8, TRADE = 9, END = 10;

        int letter = LAW;
        int gap = 0;
        int value = 0;
        int ifGap = NONE;
        int ifValue = NONE;
        int trade = NONE;

        void clear() {
            ifGap = NONE;
            ifValue = NONE;
            trade = NONE;
        }

        int accept(int state, char sign) {
            switch (state) {
                case LETTER:
                    letter = RULE_LETTERS.indexOf(sign);
                    return letter < 0 ? NONE : GAP;
                case GAP:
                    gap = figure(sign, 0, GAPS - 1);
                    return gap == NONE ? NONE : EQUALS;
                case EQUALS:
                    return sign == '=' ? VALUE : NONE;
                case VALUE:
                    value = figure(sign, 1, MOST_VALUE);
                    return value == NONE ? NONE : BEHIND_VALUE;
                case BEHIND_VALUE:
                    return sign == '?' ? IF_GAP : acceptBehindIf(sign);
                case IF_GAP:
                    ifGap = figure(sign, 0, GAPS - 1);
                    return ifGap == NONE ? NONE : IF_EQUALS;
                case IF_EQUALS:
                    return sign == '=' ? IF_VALUE : NONE;
                case IF_VALUE:
                    ifValue = figure(sign, 0, MOST_VALUE);
                    return ifValue == NONE ? NONE : BEHIND_IF;
                case BEHIND_IF:
                    return acceptBehindIf(sign);
                case TRADE:
                    trade = figure(sign, 0, TRADES - 1);
                    return trade == NONE ? NONE : END;
                default:
                    return NONE;
            }
        }

        private static int acceptBehindIf(char sign) {
            return sign == '@' ? TRADE : NONE;
        }

        boolean isWhole(int state) {
            return state == BEHIND_VALUE || state == BEHIND_IF || state == END;
        }

        /** What `ruled` tells. */
        int tells(int what) {
            switch (what) {
                case 0:
                    return letter;
                case 1:
                    return gap;
                case 2:
                    return value;
                case 3:
                    return ifGap;
                case 4:
                    return ifValue;
                case 5:
                    return trade;
                default:
                    return BAD;
            }
        }
    }

    private static final class Rules {
        /** One more than there can be: the first behind the rules is the one that texts are tried on. */
        final Rule[] rows = new Rule[MOST_RULES + 1];
        int size = 0;

        Rules() {
            for (int i = 0; i <= MOST_RULES; i++) {
                rows[i] = new Rule();
            }
        }

        Rule spare() {
            return rows[size];
        }

        void remove(int place) {
            Rule gone = rows[place];
            size--;
            for (int i = place; i < size; i++) {
                rows[i] = rows[i + 1];
            }
            rows[size] = gone;
        }
    }

    private static final class Order extends Written {
        final int[] letters = new int[ORDER_LETTERS.length()];
        int size = 0;

        Order() {
            for (int i = 0; i < letters.length; i++) {
                letters[i] = i;
            }
            size = letters.length;
        }

        void clear() {
            size = 0;
        }

        int accept(int state, char sign) {
            int letter = ORDER_LETTERS.indexOf(sign);
            if (letter < 0 || size >= letters.length || has(letter)) {
                return NONE;
            }
            letters[size] = letter;
            size++;
            return state;
        }

        private boolean has(int letter) {
            for (int i = 0; i < size; i++) {
                if (letters[i] == letter) {
                    return true;
                }
            }
            return false;
        }

        boolean isWhole(int state) {
            return size > 0;
        }

        void copy(Order other) {
            System.arraycopy(other.letters, 0, letters, 0, letters.length);
            size = other.size;
        }

        /** Two letters next to one another change places. */
        void swap(int place) {
            if (place >= 0 && place + 1 < size) {
                int letter = letters[place];
                letters[place] = letters[place + 1];
                letters[place + 1] = letter;
            }
        }
    }

    private static final class Sayings extends Written {
        private static final int ITEM = 0, EQUALS = 1, VALUE = 2, CROSSED = 3;

        final int[] values = new int[GAPS];
        /** The letters of orders that stand behind an X, as bits. */
        int crossed = 0;
        private int valueFor = 0;

        void clear() {
            for (int i = 0; i < GAPS; i++) {
                values[i] = 0;
            }
            crossed = 0;
        }

        int accept(int state, char sign) {
            switch (state) {
                case ITEM:
                    return acceptItem(sign);
                case EQUALS:
                    return sign == '=' ? VALUE : NONE;
                case VALUE:
                    return acceptValue(sign);
                case CROSSED:
                    return acceptCrossed(sign);
                default:
                    return NONE;
            }
        }

        private int acceptItem(char sign) {
            if (sign == 'X') {
                // with every letter crossed none is left that could stand behind this X
                return crossed == CROSSABLE ? NONE : CROSSED;
            }
            int gap = figure(sign, 0, GAPS - 1);
            if (gap == NONE || values[gap] != 0) {
                return NONE;
            }
            valueFor = gap;
            return EQUALS;
        }

        private int acceptValue(char sign) {
            int value = figure(sign, 1, MOST_VALUE);
            if (value == NONE) {
                return NONE;
            }
            values[valueFor] = value;
            return ITEM;
        }

        private int acceptCrossed(char sign) {
            int letter = ORDER_LETTERS.indexOf(sign);
            if (letter < 0 || bit(CROSSABLE & ~crossed, letter) == 0) {
                return NONE;
            }
            crossed |= 1 << letter;
            return ITEM;
        }

        boolean isWhole(int state) {
            return state == ITEM;
        }

        int gapCount() {
            int found = 0;
            for (int value : values) {
                found += value > 0 ? 1 : 0;
            }
            return found;
        }

        void copy(Sayings other) {
            System.arraycopy(other.values, 0, values, 0, GAPS);
            crossed = other.crossed;
        }
    }

    /** A bargain, and what each side of it thought. */
    private static final class Bargain {
        int one = 0;
        int two = 0;
        int trade = 0;
        final Sayings sayings = new Sayings();
        final int[][] thoughts = new int[SIDES][GAPS];

        void strike(int a, int b, int inTrade, Sayings words) {
            one = a;
            two = b;
            trade = inTrade;
            sayings.copy(words);
        }

        /** What both thought of a gap; 0, if they did not think the same. */
        int commonThought(int gap) {
            return thoughts[0][gap] == thoughts[1][gap] ? thoughts[0][gap] : 0;
        }

        int parted() {
            int bits = 0;
            for (int i = 0; i < GAPS; i++) {
                if (thoughts[0][i] != 0 && thoughts[1][i] != 0 && thoughts[0][i] != thoughts[1][i]) {
                    bits |= 1 << i;
                }
            }
            return bits;
        }

        int farFrom(int side, int filling) {
            int bits = 0;
            for (int i = 0; i < GAPS; i++) {
                int thought = thoughts[side][i];
                if (thought != 0 && thought != valueAt(filling, i)) {
                    bits |= 1 << i;
                }
            }
            return bits;
        }

        /** The gaps of which both thought the same and the sayings say nothing, as bits. */
        int sayable() {
            int bits = 0;
            for (int i = 0; i < GAPS; i++) {
                if (sayings.values[i] == 0 && commonThought(i) != 0) {
                    bits |= 1 << i;
                }
            }
            return bits;
        }
    }

    /** What may fill one gap, in the order in which it is tried. */
    private static final class Fillers {
        /** All rules, the law that is told ahead of them, SAYINGS, BEFORE and CUSTOM. */
        private static final int MOST = MOST_RULES + 4;

        private int size = 0;
        private final int[] values = new int[MOST];
        private final int[] reasons = new int[MOST];
        private final int[] ifGaps = new int[MOST];
        private final int[] ifValues = new int[MOST];

        void clear() {
            size = 0;
        }

        void add(int value, int reason, int ifGap, int ifValue) {
            if (size >= MOST) {
                return;
            }
            values[size] = value;
            reasons[size] = reason;
            ifGaps[size] = ifGap;
            ifValues[size] = ifValue;
            size++;
        }

        /** The place of the first that fills the gap in a filling; NONE. */
        int first(int[] filling) {
            for (int i = 0; i < size; i++) {
                int other = ifGaps[i];
                if (!isGap(other) || filling[other] == ifValues[i]) {
                    return i;
                }
            }
            return NONE;
        }

        int valueOf(int place) {
            return place >= 0 && place < size ? values[place] : 0;
        }

        int reasonOf(int place) {
            return place >= 0 && place < size ? reasons[place] : BY_NOTHING;
        }
    }

    /** How a bargain is read by an order. Its rows are used again by each reading. */
    private static final class Reading {
        /** Far above what the search for a ring can need, which goes thrice through all fillings at most. */
        private static final int MOST_STEPS = 1000000;

        private final Gaps gaps;
        private final int[] terms;
        private final Rules rules;
        /** A law told ahead of all rules, to see its worth. */
        int lawGap = NONE;
        int lawValue = 0;

        private int trade = 0;
        private int crossed = 0;
        private final int[] said = new int[GAPS];
        private final int[] before = new int[GAPS];
        private final int[] custom = new int[GAPS];

        private final Fillers[] fillers = new Fillers[GAPS];
        private final int[] now = new int[GAPS];

        int rounds = 0;
        int ring = 0;
        int answer = 0;
        int turns = 0;
        private int last = 0;

        Reading(Gaps gaps, int[] terms, Rules rules) {
            this.gaps = gaps;
            this.terms = terms;
            this.rules = rules;
            for (int i = 0; i < GAPS; i++) {
                fillers[i] = new Fillers();
            }
        }

        /** Takes up a bargain, with what no order changes of its sources. */
        void take(Bargain bargain, Doings doings) {
            trade = bargain.trade;
            crossed = bargain.sayings.crossed;
            boolean bothKnow = doings.isKnown(bargain.one, trade) && doings.isKnown(bargain.two, trade);
            for (int i = 0; i < GAPS; i++) {
                said[i] = bargain.sayings.values[i];
                before[i] = doings.valueBefore(bargain.one, bargain.two, i, terms[TIMES]);
                custom[i] = bothKnow ? doings.customOf(trade, i, terms) : 0;
            }
        }

        /** The sayings are the bargain's own and, behind them, its common thoughts at a set of gaps. */
        void sayToo(Bargain bargain, int set) {
            for (int i = 0; i < GAPS; i++) {
                said[i] = bit(set, i) == 1 ? bargain.commonThought(i) : bargain.sayings.values[i];
            }
        }

        void plan(Order order) {
            for (Fillers row : fillers) {
                row.clear();
            }
            planRules(BOUND);
            for (int i = 0; i < order.size; i++) {
                planLetter(order.letters[i]);
            }
        }

        private void planLetter(int letter) {
            if (bit(crossed, letter) == 1) {
                return;
            }
            switch (letter) {
                case WORDS:
                    planRow(said, BY_SAYINGS);
                    break;
                case BEFORE:
                    planRow(before, BY_BEFORE);
                    break;
                case CUSTOM:
                    planRow(custom, BY_CUSTOM);
                    break;
                case LAWS:
                    planLawAhead();
                    planRules(LAW);
                    break;
                default:
                    planRules(MEANT);
                    break;
            }
        }

        private void planRow(int[] row, int reason) {
            for (int i = 0; i < GAPS; i++) {
                if (isThere(i, row[i])) {
                    fillers[i].add(row[i], reason, NONE, 0);
                }
            }
        }

        private void planLawAhead() {
            if (isGap(lawGap) && isThere(lawGap, lawValue)) {
                fillers[lawGap].add(lawValue, BY_NOTHING, NONE, 0);
            }
        }

        private void planRules(int letter) {
            for (int i = 0; i < rules.size; i++) {
                Rule rule = rules.rows[i];
                boolean fits = rule.letter == letter && (rule.trade == NONE || rule.trade == trade);
                if (fits && isThere(rule.gap, rule.value)) {
                    fillers[rule.gap].add(rule.value, BY_RULES + i, rule.ifGap, rule.ifValue);
                }
            }
        }

        private boolean isThere(int gap, int value) {
            return value >= 1 && value <= gaps.values[gap];
        }

        /** THE NEXT FILLING. */
        int follow(int filling) {
            spread(filling, now);
            int result = 0;
            for (int i = 0; i < GAPS; i++) {
                int place = gaps.isAsked(i, now) ? fillers[i].first(now) : NONE;
                result = result * BASE + fillers[i].valueOf(place);
            }
            return result;
        }

        void read(Order order) {
            plan(order);
            findRing();
            int first = findRounds();
            turns = 0;
            last = first;
            for (int i = 1; i < ring; i++) {
                last = follow(last);
                turns |= unlike(first, last);
            }
            answer = without(first, turns);
        }

        /** How long the ring is: by a mark that is put down ever later, until the fillings come back to it. */
        private void findRing() {
            int mark = 0;
            int filling = follow(mark);
            int wait = 1;
            ring = 1;
            for (int i = 0; i < MOST_STEPS && filling != mark; i++) {
                if (ring == wait) {
                    mark = filling;
                    wait *= 2;
                    ring = 0;
                }
                filling = follow(filling);
                ring++;
            }
        }

        /** The first filling of the ring: where two meet of which one is a whole ring ahead. */
        private int findRounds() {
            int ahead = 0;
            for (int i = 0; i < ring; i++) {
                ahead = follow(ahead);
            }
            int filling = 0;
            rounds = 0;
            for (int i = 0; i < MOST_STEPS && filling != ahead; i++) {
                filling = follow(filling);
                ahead = follow(ahead);
                rounds++;
            }
            return filling;
        }

        private int without(int filling, int gapSet) {
            spread(filling, now);
            int result = 0;
            for (int i = 0; i < GAPS; i++) {
                result = result * BASE + (bit(gapSet, i) == 1 ? 0 : now[i]);
            }
            return result;
        }

        /** THE REASON: what fills the gap in the last filling of the ring. */
        int reasonOf(int gap) {
            if (bit(turns, gap) == 1) {
                return BY_TURNS;
            }
            spread(last, now);
            int place = gaps.isAsked(gap, now) ? fillers[gap].first(now) : NONE;
            return fillers[gap].reasonOf(place);
        }

        int stillOpen() {
            spread(answer, now);
            int bits = 0;
            for (int i = 0; i < GAPS; i++) {
                if (now[i] == 0 && gaps.isAsked(i, now)) {
                    bits |= 1 << i;
                }
            }
            return bits;
        }
    }
}
