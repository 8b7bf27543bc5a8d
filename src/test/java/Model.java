import java.util.ArrayList;
import java.util.Comparator;
import java.util.HashMap;
import java.util.HashSet;
import java.util.List;
import java.util.Map;
import java.util.Set;
import java.util.regex.Pattern;

/** The document once more, word by word and with the whole library, for random runs to be compared with. */
final class Model {
    private static final int UNKNOWN = -1, BAD = -2, LATE = -3, FULL = -4, NONE = -9;
    private static final Pattern RULE = Pattern.compile("[LBM][0-5]=[1-5](\\?[0-5]=[0-5])?(@[0-2])?");
    private static final Pattern ORDER = Pattern.compile("[WDCLM]{1,5}");
    private static final Pattern SAYINGS = Pattern.compile("([0-5]=[1-5]|X[DCL])*");
    private static final String SIGNS = "012345=?@LBMWDCX";
    private static final Map<String, Boolean> CAN_BE = new HashMap<>();

    private record Doing(int a, int b, int trade, int gap, int v, boolean objected) {
        boolean isOf(int p, int q) {
            return Set.of(a, b).equals(Set.of(p, q));
        }
    }

    private record Law(char letter, int gap, int value, int ifGap, int ifValue, int trade) { }

    private record Words(Map<Integer, Integer> values, Set<Character> crossed) { }

    private record Lore(List<Doing> doings, Set<List<Integer>> told) {
        Lore copy() {
            return new Lore(new ArrayList<>(doings), new HashSet<>(told));
        }
    }

    private record Filled(int value, int reason) { }

    private record Reading(int rounds, List<int[]> ring) {
        boolean turns(int gap) {
            return ring.stream().anyMatch(f -> f[gap] != ring.get(0)[gap]);
        }

        int[] answer() {
            int[] answer = new int[6];
            for (int gap = 0; gap < 6; gap++) {
                answer[gap] = turns(gap) ? 0 : ring.get(0)[gap];
            }
            return answer;
        }
    }

    private static final class Deal {
        int a, b, trade;
        Words words;
        int[][] thoughts = new int[2][6];

        boolean bothThought(int gap) {
            return thoughts[0][gap] != 0 && thoughts[0][gap] == thoughts[1][gap];
        }
    }

    private final int[] ks = new int[6];
    private final boolean[] needed = new boolean[6];
    private final int[] hangsOn = {NONE, NONE, NONE, NONE, NONE, NONE};
    private final int[] hangsAt = new int[6];
    private Lore lore = new Lore(new ArrayList<>(), new HashSet<>());
    private final Lore[] slots = new Lore[2];
    private int times = 2, least = 3, share = 60;
    private String text = "";
    private List<Law> laws = new ArrayList<>();
    private final String[] orders = {"WDCLM", "WDCLM", "WDCLM", "WDCLM"};
    private final List<Deal> deals = new ArrayList<>();

    private static boolean in(int i, int size) {
        return i >= 0 && i < size;
    }

    private static boolean value(int v) {
        return v >= 1 && v <= 5;
    }

    public int gap(int gap, int k) {
        if (!in(gap, 6)) return UNKNOWN;
        if (!in(k, 6)) return BAD;
        int was = ks[gap];
        ks[gap] = k;
        return was;
    }

    public int need(int gap, boolean is) {
        if (!in(gap, 6)) return UNKNOWN;
        boolean was = needed[gap];
        needed[gap] = is;
        return was ? 1 : 0;
    }

    public int hang(int gap, int on, int v) {
        if (!in(gap, 6)) return UNKNOWN;
        int was = hangsOn[gap];
        if (on != NONE) {
            if (!in(on, 6)) return UNKNOWN;
            if (!value(v)) return BAD;
            if (on == gap) return LATE;
        }
        hangsOn[gap] = on;
        hangsAt[gap] = v;
        return was;
    }

    public int doing(int a, int b, int trade, int gap, int v, boolean objected) {
        if (!in(a, 5) || !in(b, 5) || !in(trade, 3) || !in(gap, 6)) return UNKNOWN;
        if (!value(v) || a == b) return BAD;
        if (lore.doings.size() == 24) return FULL;
        lore.doings.add(new Doing(a, b, trade, gap, v, objected));
        return lore.doings.size() - 1;
    }

    public int undo() {
        if (lore.doings.isEmpty()) return LATE;
        lore.doings.remove(lore.doings.size() - 1);
        return lore.doings.size();
    }

    public int tell(int person, int trade, boolean is) {
        if (!in(person, 5) || !in(trade, 3)) return UNKNOWN;
        List<Integer> told = List.of(person, trade);
        int was = lore.told.contains(told) ? 1 : 0;
        if (is) lore.told.add(told);
        else lore.told.remove(told);
        return was;
    }

    public int term(int what, int v) {
        int was;
        if (what == 0 && v >= 1 && v <= 5) {
            was = times;
            times = v;
        } else if (what == 1 && v >= 1 && v <= 9) {
            was = least;
            least = v;
        } else if (what == 2 && v >= 51 && v <= 100) {
            was = share;
            share = v;
        } else {
            return BAD;
        }
        return was;
    }

    private boolean doesKnow(Lore by, int person, int trade) {
        return by.told.contains(List.of(person, trade))
            || by.doings.stream().anyMatch(d -> d.trade == trade && (d.a == person || d.b == person));
    }

    public int knows(int person, int trade) {
        if (!in(person, 5) || !in(trade, 3)) return UNKNOWN;
        return doesKnow(lore, person, trade) ? 1 : 0;
    }

    private int beforeBy(Lore by, int a, int b, int gap) {
        List<Doing> theirs = by.doings.stream().filter(d -> d.isOf(a, b) && d.gap == gap).toList();
        if (theirs.size() < times) return 0;
        List<Doing> last = theirs.subList(theirs.size() - times, theirs.size());
        int v = last.get(0).v;
        return last.stream().allMatch(d -> d.v == v && !d.objected) ? v : 0;
    }

    public int before(int a, int b, int gap) {
        if (!in(a, 5) || !in(b, 5) || !in(gap, 6)) return UNKNOWN;
        if (a == b) return BAD;
        return beforeBy(lore, a, b, gap);
    }

    private int customBy(Lore by, int trade, int gap) {
        List<Doing> all = by.doings.stream().filter(d -> d.trade == trade && d.gap == gap).toList();
        if (all.size() < least) return 0;
        for (int v = 1; v <= 5; v++) {
            int value = v;
            long own = all.stream().filter(d -> d.v == value && !d.objected).count();
            if (own * 100 / (double) all.size() >= share) return v;
        }
        return 0;
    }

    public int custom(int trade, int gap) {
        if (!in(trade, 3) || !in(gap, 6)) return UNKNOWN;
        return customBy(lore, trade, gap);
    }

    public int lacks(int trade, int gap, int v) {
        if (!in(trade, 3) || !in(gap, 6)) return UNKNOWN;
        if (!value(v)) return BAD;
        Lore more = lore.copy();
        for (int i = 0; i <= 99; i++) {
            if (customBy(more, trade, gap) == v) return i;
            more.doings.add(new Doing(0, 1, trade, gap, v, false));
        }
        return NONE;
    }

    public int write(int n, long v) {
        if (n < 1 || n > 8) return BAD;
        if (text.length() + n > 24) return FULL;
        String bytes = "";
        long rest = v;
        for (int i = 0; i < n; i++) {
            bytes = (char) Long.remainderUnsigned(rest, 256) + bytes;
            rest = Long.divideUnsigned(rest, 256);
        }
        text += bytes;
        return text.length();
    }

    public int wipe() {
        int was = text.length();
        text = "";
        return was;
    }

    private static boolean hasTwice(String s, Pattern items) {
        List<String> found = items.matcher(s).results().map(m -> m.group()).toList();
        return new HashSet<>(found).size() < found.size();
    }

    private static boolean is(int kind, String s) {
        if (kind == 0) return RULE.matcher(s).matches();
        if (kind == 1) return ORDER.matcher(s).matches() && !hasTwice(s, Pattern.compile("."));
        return SAYINGS.matcher(s).matches() && !hasTwice(s, Pattern.compile("[0-5](?==)|X."));
    }

    /** Whether some text that begins so is one of a kind, with so many signs more at most. */
    private static boolean canBe(int kind, String head, int more) {
        if (is(kind, head)) return true;
        if (more == 0) return false;
        String key = kind + " " + more + head;
        Boolean known = CAN_BE.get(key);
        if (known == null) {
            known = SIGNS.chars().anyMatch(c -> canBe(kind, head + (char) c, more - 1));
            CAN_BE.put(key, known);
        }
        return known;
    }

    public int fault(int kind) {
        if (!in(kind, 3)) return UNKNOWN;
        if (is(kind, text)) return NONE;
        for (int i = 0; i < text.length(); i++) {
            if (!canBe(kind, text.substring(0, i + 1), 4)) return i;
        }
        return text.length();
    }

    public int rule() {
        if (!is(0, text)) return LATE;
        if (laws.size() == 12) return FULL;
        int ifAt = text.indexOf('?');
        int tradeAt = text.indexOf('@');
        laws.add(new Law(text.charAt(0), text.charAt(1) - '0', text.charAt(3) - '0',
            ifAt < 0 ? NONE : text.charAt(ifAt + 1) - '0', ifAt < 0 ? NONE : text.charAt(ifAt + 3) - '0',
            tradeAt < 0 ? NONE : text.charAt(tradeAt + 1) - '0'));
        return laws.size() - 1;
    }

    public int unrule(int rule) {
        if (!in(rule, laws.size())) return UNKNOWN;
        laws.remove(rule);
        return laws.size();
    }

    public int ruled(int rule, int what) {
        if (!in(rule, laws.size())) return UNKNOWN;
        if (!in(what, 6)) return BAD;
        Law l = laws.get(rule);
        return new int[] {"LBM".indexOf(l.letter), l.gap, l.value, l.ifGap, l.ifValue, l.trade}[what];
    }

    public int order(int order) {
        if (!in(order, 4)) return UNKNOWN;
        if (!is(1, text)) return LATE;
        orders[order] = text;
        return text.length();
    }

    public int ordered(int order, int i) {
        if (!in(order, 4)) return UNKNOWN;
        return in(i, orders[order].length()) ? "WDCLM".indexOf(orders[order].charAt(i)) : NONE;
    }

    private Words words() {
        Words words = new Words(new HashMap<>(), new HashSet<>());
        for (int i = 0; i < text.length(); i += text.charAt(i) == 'X' ? 2 : 3) {
            if (text.charAt(i) == 'X') words.crossed.add(text.charAt(i + 1));
            else words.values.put(text.charAt(i) - '0', text.charAt(i + 2) - '0');
        }
        return words;
    }

    public int bargain(int a, int b, int trade) {
        if (!in(a, 5) || !in(b, 5) || !in(trade, 3)) return UNKNOWN;
        if (a == b) return BAD;
        if (!is(2, text)) return LATE;
        if (deals.size() == 8) return FULL;
        Deal d = new Deal();
        d.a = a;
        d.b = b;
        d.trade = trade;
        d.words = words();
        deals.add(d);
        return deals.size() - 1;
    }

    public int reword(int bargain) {
        if (!in(bargain, deals.size())) return UNKNOWN;
        if (!is(2, text)) return LATE;
        deals.get(bargain).words = words();
        return deals.get(bargain).words.values.size();
    }

    public int said(int bargain, int gap) {
        if (!in(bargain, deals.size()) || !in(gap, 6)) return UNKNOWN;
        return deals.get(bargain).words.values.getOrDefault(gap, 0);
    }

    private boolean asked(int gap, int[] f) {
        return ks[gap] > 0 && (hangsOn[gap] == NONE || f[hangsOn[gap]] == hangsAt[gap]);
    }

    private Filled byRules(Deal d, char letter, int gap, int[] f) {
        for (Law l : laws) {
            if (l.letter == letter && l.gap == gap && l.value <= ks[gap]
                && (l.trade == NONE || l.trade == d.trade) && (l.ifGap == NONE || f[l.ifGap] == l.ifValue)) {
                return new Filled(l.value, 10 + laws.indexOf(l));
            }
        }
        return null;
    }

    private Filled bySource(Deal d, Lore by, char letter, int gap, int[] f) {
        if (d.words.crossed.contains(letter)) return null;
        int v = 0;
        if (letter == 'W') v = d.words.values.getOrDefault(gap, 0);
        else if (letter == 'D') v = beforeBy(by, d.a, d.b, gap);
        else if (letter != 'C') return byRules(d, letter, gap, f);
        else if (doesKnow(by, d.a, d.trade) && doesKnow(by, d.b, d.trade)) v = customBy(by, d.trade, gap);
        return v == 0 || v > ks[gap] ? null : new Filled(v, 1 + "WDC".indexOf(letter));
    }

    private Filled filled(Deal d, Lore by, String order, int gap, int[] f) {
        if (!asked(gap, f)) return new Filled(0, 0);
        Filled found = byRules(d, 'B', gap, f);
        for (int i = 0; i < order.length() && found == null; i++) {
            found = bySource(d, by, order.charAt(i), gap, f);
        }
        return found == null ? new Filled(0, 0) : found;
    }

    private int[] next(Deal d, Lore by, String order, int[] f) {
        int[] next = new int[6];
        for (int gap = 0; gap < 6; gap++) {
            next[gap] = filled(d, by, order, gap, f).value;
        }
        return next;
    }

    private static int number(int[] f) {
        int number = 0;
        for (int v : f) {
            number = number * 6 + v;
        }
        return number;
    }

    private static int[] figures(int number) {
        int[] f = new int[6];
        for (int gap = 5, rest = number; gap >= 0; gap--, rest /= 6) {
            f[gap] = rest % 6;
        }
        return f;
    }

    private Reading read(Deal d, Lore by, String order) {
        List<int[]> path = new ArrayList<>();
        Map<Integer, Integer> places = new HashMap<>();
        int[] f = new int[6];
        while (!places.containsKey(number(f))) {
            places.put(number(f), path.size());
            path.add(f);
            f = next(d, by, order, f);
        }
        int first = places.get(number(f));
        return new Reading(first, path.subList(first, path.size()));
    }

    private Reading read(int bargain, int order) {
        return read(deals.get(bargain), lore, orders[order]);
    }

    private boolean knownPair(int bargain, int order) {
        return in(bargain, deals.size()) && in(order, 4);
    }

    public int next(int bargain, int order, int filling) {
        if (!knownPair(bargain, order)) return UNKNOWN;
        if (!in(filling, 46656)) return BAD;
        return number(next(deals.get(bargain), lore, orders[order], figures(filling)));
    }

    public int rounds(int bargain, int order, boolean ring) {
        if (!knownPair(bargain, order)) return UNKNOWN;
        Reading r = read(bargain, order);
        return ring ? r.ring.size() : r.rounds;
    }

    public int answer(int bargain, int order) {
        return knownPair(bargain, order) ? number(read(bargain, order).answer()) : UNKNOWN;
    }

    public int fills(int bargain, int order, int gap) {
        return knownPair(bargain, order) && in(gap, 6) ? read(bargain, order).answer()[gap] : UNKNOWN;
    }

    public int reason(int bargain, int order, int gap) {
        if (!knownPair(bargain, order) || !in(gap, 6)) return UNKNOWN;
        Reading r = read(bargain, order);
        if (r.turns(gap)) return 4;
        return filled(deals.get(bargain), lore, orders[order], gap, r.ring.get(r.ring.size() - 1)).reason;
    }

    public int open(int bargain, int order, boolean turns) {
        if (!knownPair(bargain, order)) return UNKNOWN;
        Reading r = read(bargain, order);
        int[] answer = r.answer();
        int bits = 0;
        for (int gap = 0; gap < 6; gap++) {
            if (turns ? r.turns(gap) : asked(gap, answer) && answer[gap] == 0) bits += 1 << gap;
        }
        return bits;
    }

    public int holds(int bargain, int order) {
        if (!knownPair(bargain, order)) return UNKNOWN;
        Reading r = read(bargain, order);
        int[] answer = r.answer();
        for (int gap = 0; gap < 6; gap++) {
            if (needed[gap] && (r.turns(gap) || asked(gap, answer) && answer[gap] == 0)) return 0;
        }
        return 1;
    }

    public int judge(int bargain, int order, int filling) {
        if (!knownPair(bargain, order)) return UNKNOWN;
        if (!in(filling, 46656)) return BAD;
        int[] row = figures(filling);
        int[] answer = read(bargain, order).answer();
        for (int gap = 0; gap < 6; gap++) {
            if (row[gap] != answer[gap]) return gap;
        }
        return NONE;
    }

    private static int unlike(int[] f, int[] g) {
        int bits = 0;
        for (int gap = 0; gap < 6; gap++) {
            if (f[gap] != g[gap]) bits += 1 << gap;
        }
        return bits;
    }

    public int differ(int bargain, int order, int other) {
        if (!knownPair(bargain, order) || !in(other, 4)) return UNKNOWN;
        return unlike(read(bargain, order).answer(), read(bargain, other).answer());
    }

    private List<Integer> movesOfAll(int bargain, int order) {
        List<Integer> moves = new ArrayList<>();
        String o = orders[order];
        int[] answer = read(bargain, order).answer();
        for (int i = 0; i + 1 < o.length(); i++) {
            String changed = o.substring(0, i) + o.charAt(i + 1) + o.charAt(i) + o.substring(i + 2);
            moves.add(Integer.bitCount(unlike(answer, read(deals.get(bargain), lore, changed).answer())));
        }
        return moves;
    }

    public int step(int bargain, int order) {
        if (!knownPair(bargain, order)) return UNKNOWN;
        int most = moves(bargain, order);
        return most == 0 ? NONE : movesOfAll(bargain, order).indexOf(most);
    }

    public int moves(int bargain, int order) {
        if (!knownPair(bargain, order)) return UNKNOWN;
        return movesOfAll(bargain, order).stream().mapToInt(m -> m).max().orElse(0);
    }

    public int think(int bargain, int side, int gap, int v) {
        if (!in(bargain, deals.size()) || !in(gap, 6)) return UNKNOWN;
        if (!in(side, 2) || !in(v, 6)) return BAD;
        int was = deals.get(bargain).thoughts[side][gap];
        deals.get(bargain).thoughts[side][gap] = v;
        return was;
    }

    public int part(int bargain) {
        if (!in(bargain, deals.size())) return UNKNOWN;
        Deal d = deals.get(bargain);
        int bits = 0;
        for (int gap = 0; gap < 6; gap++) {
            if (d.thoughts[0][gap] * d.thoughts[1][gap] != 0 && !d.bothThought(gap)) bits += 1 << gap;
        }
        return bits;
    }

    private static int farOf(Deal d, int side, int[] answer) {
        int bits = 0;
        for (int gap = 0; gap < 6; gap++) {
            if (d.thoughts[side][gap] != 0 && d.thoughts[side][gap] != answer[gap]) bits += 1 << gap;
        }
        return bits;
    }

    public int far(int bargain, int order, int side) {
        if (!knownPair(bargain, order)) return UNKNOWN;
        if (!in(side, 2)) return BAD;
        return farOf(deals.get(bargain), side, read(bargain, order).answer());
    }

    private boolean suits(Deal d, int set, int orderSet) {
        Deal more = new Deal();
        more.a = d.a;
        more.b = d.b;
        more.trade = d.trade;
        more.words = new Words(new HashMap<>(d.words.values), d.words.crossed);
        for (int gap = 0; gap < 6; gap++) {
            if ((set >> gap & 1) == 1) {
                if (d.words.values.containsKey(gap) || !d.bothThought(gap)) return false;
                more.words.values.put(gap, d.thoughts[0][gap]);
            }
        }
        for (int order = 0; order < 4; order++) {
            if ((orderSet >> order & 1) == 1) {
                int[] answer = read(more, lore, orders[order]).answer();
                if (farOf(d, 0, answer) + farOf(d, 1, answer) != 0) return false;
            }
        }
        return true;
    }

    public int words(int bargain, int orderSet) {
        if (!in(bargain, deals.size())) return UNKNOWN;
        if (orderSet < 1 || orderSet > 15) return BAD;
        List<Integer> sets = new ArrayList<>();
        for (int set = 0; set < 64; set++) {
            if (suits(deals.get(bargain), set, orderSet)) sets.add(set);
        }
        return sets.stream().min(Comparator.comparing((Integer s) -> Integer.bitCount(s)).thenComparing(s -> s)).orElse(NONE);
    }

    public int worth(int order, int gap, int v) {
        if (!in(order, 4) || !in(gap, 6)) return UNKNOWN;
        if (!value(v)) return BAD;
        List<Law> told = laws;
        laws = new ArrayList<>(told);
        laws.add(0, new Law('L', gap, v, NONE, NONE, NONE));
        int worth = 0;
        for (Deal d : deals) {
            if (d.bothThought(gap) && read(d, lore, orders[order]).answer()[gap] == d.thoughts[0][gap]) worth++;
        }
        laws = told;
        return worth;
    }

    public int best(int order, int gap) {
        if (!in(order, 4) || !in(gap, 6)) return UNKNOWN;
        int best = NONE;
        for (int v = ks[gap]; v >= 1; v--) {
            if (best == NONE || worth(order, gap, v) >= worth(order, gap, best)) best = v;
        }
        return best;
    }

    public int keep(int slot) {
        if (!in(slot, 2)) return UNKNOWN;
        slots[slot] = lore.copy();
        return lore.doings.size();
    }

    public int again(int slot) {
        if (!in(slot, 2)) return UNKNOWN;
        if (slots[slot] == null) return LATE;
        lore = slots[slot].copy();
        return lore.doings.size();
    }

    public int since(int order, int slot) {
        if (!in(order, 4) || !in(slot, 2)) return UNKNOWN;
        if (slots[slot] == null) return LATE;
        int otherwise = 0;
        for (Deal d : deals) {
            int now = number(read(d, lore, orders[order]).answer());
            if (now != number(read(d, slots[slot], orders[order]).answer())) otherwise++;
        }
        return otherwise;
    }

    public int count(int what) {
        if (!in(what, 5)) return BAD;
        int gaps = 0;
        for (int k : ks) {
            if (k > 0) gaps++;
        }
        return new int[] {gaps, lore.doings.size(), text.length(), laws.size(), deals.size()}[what];
    }
}
