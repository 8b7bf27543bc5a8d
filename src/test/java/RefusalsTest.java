import java.lang.reflect.InvocationTargetException;
import java.lang.reflect.Method;
import java.util.ArrayList;
import java.util.Arrays;
import java.util.HashMap;
import java.util.HashSet;
import java.util.List;
import java.util.Map;
import java.util.Set;

/**
 * Section 5: each refusal of each call, by itself and beside each other one, in objects that are new, in use and
 * full; and that what is refused changes nothing.
 */
public final class RefusalsTest {
    private static final Check CHECK = new Check();
    private static final int UNKNOWN = LeftOut.UNKNOWN, BAD = LeftOut.BAD, LATE = LeftOut.LATE, FULL = LeftOut.FULL;
    private static final int NONE = LeftOut.NONE;
    /** So many refused calls are made of one object, that all its calls stay below 512. */
    private static final int REFUSED_AT_ONCE = 100;

    /**
     * Each call and of what kind its arguments are. Refused as UNKNOWN: g gap, h gap or NONE, p person, t trade,
     * r rule, o order, b bargain, l slot, x kind. Refused as BAD: k number of values, v value, V value that is not
     * looked at when the one ahead is NONE, m term, T what a term is to be, n bytes, w what of a rule, f filling,
     * s side, d thought, O orders, c what is counted. Never refused: ? yes or no, i letter of an order, N bytes.
     */
    private static final String[] CALLS = {
        "gap gk", "need g?", "hang ghV", "doing pptgv?", "undo", "tell pt?", "term mT", "knows pt", "before ppg",
        "custom tg", "lacks tgv", "write nN", "wipe", "fault x", "rule", "unrule r", "ruled rw", "order o",
        "ordered oi", "bargain ppt", "reword b", "said bg", "next bof", "rounds bo?", "answer bo", "fills bog",
        "reason bog", "open bo?", "holds bo", "judge bof", "differ boo", "step bo", "moves bo", "think bsgd",
        "part b", "far bos", "words bO", "worth ogv", "best og", "keep l", "again l", "since ol", "count c",
    };
    private static final String TELL_UNKNOWN = "ghptroblx";
    private static final Map<String, Method> FACE = face();

    /** An object is made so; its text, doings, rules and bargains are so many; of the slots some are kept. */
    private record State(String name, String text, int doings, int rules, int bargains, boolean... kept) {
        boolean isText(int kind) {
            return Check.fault(new LeftOut(), kind, text) == NONE;
        }

        LeftOut make() {
            LeftOut x = new LeftOut();
            if (doings > 0) {
                inUse(x, this);
            }
            Check.text(x, text);
            return x;
        }
    }

    private static final String[] TEXTS = {"", "L0=1", "B5=2?3=0@2", "DM", "0=1XD", "0=1X", "XDXCXL0=1",
        "0=11=12=13=14=15", "0=11=12=13=14=15=", "0=11=12=13=14=15=1XDXCX", "0=11=12=13=14=15=1XDXCXL"};

    /** What came of the refused calls: how often each call told each refusal. */
    private static final Map<String, Integer> TOLD = new HashMap<>();

    public static void main(String[] args) throws IllegalAccessException {
        for (State state : states()) {
            int[][] untouched = allSeen(state, List.of());
            List<Object[]> refused = new ArrayList<>();
            for (String call : CALLS) {
                String[] parts = call.split(" ");
                String kinds = parts.length < 2 ? "" : parts[1];
                for (Object[] arguments : argumentsOf(state, kinds)) {
                    int refusal = refusal(state, parts[0], kinds, arguments);
                    if (refusal == 0) {
                        accepted(state, parts[0], arguments);
                    } else {
                        refused.add(new Object[] {parts[0], arguments, refusal});
                        TOLD.merge(parts[0] + " " + refusal, 1, Integer::sum);
                    }
                }
            }
            for (int i = 0; i < refused.size(); i += REFUSED_AT_ONCE) {
                List<Object[]> some = refused.subList(i, Math.min(i + REFUSED_AT_ONCE, refused.size()));
                int[][] touched = allSeen(state, some);
                CHECK.holds(state.name + ": refused changes nothing, from " + title(some.get(0)),
                    Arrays.deepEquals(untouched, touched));
            }
        }
        eachRefusalWasTold();
        CHECK.end("RefusalsTest");
    }

    private static Map<String, Method> face() {
        Map<String, Method> face = new HashMap<>();
        for (Method m : LeftOut.class.getMethods()) {
            face.put(m.getName(), m);
        }
        return face;
    }

    private static List<State> states() {
        List<State> states = new ArrayList<>();
        for (String text : TEXTS) {
            states.add(new State("new, " + text, text, 0, 0, 0, false, false));
            states.add(new State("in use, " + text, text, 6, 3, 2, true, false));
            states.add(new State("almost full, " + text, text, 23, 11, 7, false, true));
            states.add(new State("full, " + text, text, 24, 12, 8, true, true));
        }
        return states;
    }

    /** Something of all that there can be, so that a change of any of it would be seen. */
    private static void inUse(LeftOut x, State state) {
        int[] values = {5, 3, 0, 4, 1, 2};
        for (int gap = 0; gap < 6; gap++) {
            x.gap(gap, values[gap]);
        }
        x.need(1, true);
        x.need(5, true);
        x.hang(3, 0, 1);
        x.hang(5, 1, 2);
        x.term(0, 1);
        x.term(1, 2);
        x.term(2, 70);
        x.tell(2, 1, true);
        x.tell(0, 0, true);
        if (state.kept[0]) {
            x.keep(0);
        }
        for (int i = 0; i < state.doings; i++) {
            x.doing(i % 5, (i + 1 + i % 2) % 5, i % 3, i % 6, 1 + i % 4, i % 7 == 6);
        }
        if (state.kept[1]) {
            x.tell(4, 2, true);
            x.keep(1);
            x.tell(1, 0, true);
        }
        String[] rules = {"L1=3", "M0=4?3=0", "B4=1@1", "M3=2", "L5=1", "M1=1"};
        for (int i = 0; i < state.rules; i++) {
            Check.rule(x, rules[i % rules.length]);
        }
        Check.order(x, 1, "MLW");
        Check.order(x, 3, "CD");
        String[] words = {"0=1XC", "1=2", "XL0=53=1"};
        for (int i = 0; i < state.bargains; i++) {
            Check.bargain(x, i % 5, (i + 1) % 5, i % 3, words[i % words.length]);
            x.think(i, 0, i % 6, 3);
            x.think(i, 1, i % 6, 3 + i % 2);
        }
    }

    /** Edges against edges; and the numbers that are far off, one by one and all at once. */
    private static List<Object[]> argumentsOf(State state, String kinds) {
        List<Object[]> all = new ArrayList<>();
        product(state, kinds, new Object[kinds.length()], 0, all);
        for (int far : new int[] {Integer.MIN_VALUE, Integer.MAX_VALUE, NONE, BAD, LATE, FULL}) {
            Object[] everywhere = new Object[kinds.length()];
            for (int i = 0; i < kinds.length(); i++) {
                Object[] once = all.get(all.size() / 2).clone();
                once[i] = isNumber(kinds.charAt(i)) ? far : once[i];
                everywhere[i] = once[i];
                all.add(once);
            }
            all.add(everywhere);
        }
        return all;
    }

    private static boolean isNumber(char kind) {
        return kind != '?' && kind != 'N';
    }

    private static void product(State state, String kinds, Object[] head, int i, List<Object[]> all) {
        if (i == kinds.length()) {
            all.add(head.clone());
            return;
        }
        for (Object value : edges(state, kinds.charAt(i), i > 0 ? head[i - 1] : null)) {
            head[i] = value;
            product(state, kinds, head, i + 1, all);
        }
    }

    private static Object[] edges(State state, char kind, Object ahead) {
        if (kind == '?') {
            return new Object[] {false, true};
        }
        if (kind == 'N') {
            return new Object[] {0L, Long.MIN_VALUE, -1L};
        }
        int[] range = range(state, kind, ahead);
        List<Object> edges = new ArrayList<>(List.of(range[0] - 1, range[0], range[1], range[1] + 1));
        if (kind == 'h') {
            edges.add(NONE);
        }
        return edges.toArray();
    }

    /** The least and the greatest that there is of a kind. */
    private static int[] range(State state, char kind, Object ahead) {
        switch (kind) {
            case 'g':
            case 'h':
            case 'k':
            case 'd':
            case 'w': return new int[] {0, 5};
            case 'v':
            case 'V': return new int[] {1, 5};
            case 'p':
            case 'i':
            case 'c': return new int[] {0, 4};
            case 't':
            case 'x':
            case 'm': return new int[] {0, 2};
            case 'o': return new int[] {0, 3};
            case 's':
            case 'l': return new int[] {0, 1};
            case 'O': return new int[] {1, 15};
            case 'n': return new int[] {1, 8};
            case 'f': return new int[] {0, 46655};
            case 'r': return new int[] {0, state.rules - 1};
            case 'b': return new int[] {0, state.bargains - 1};
            case 'T': return ahead.equals(0) ? new int[] {1, 5} : ahead.equals(1) ? new int[] {1, 9} : new int[] {51, 100};
            default: throw new IllegalArgumentException("kind " + kind);
        }
    }

    private static boolean isOut(State state, String kinds, Object[] arguments, int i) {
        char kind = kinds.charAt(i);
        if (!isNumber(kind) || kind == 'i' || kind == 'h' && arguments[i].equals(NONE)) {
            return false;
        }
        if (kind == 'V' && arguments[i - 1].equals(NONE)) {
            return false;
        }
        int[] range = range(state, kind, i > 0 ? arguments[i - 1] : null);
        return (int) arguments[i] < range[0] || (int) arguments[i] > range[1];
    }

    /** The refusal that is told first; 0: none is due. */
    private static int refusal(State state, String name, String kinds, Object[] arguments) {
        boolean isBad = false;
        for (int i = 0; i < arguments.length; i++) {
            boolean isOut = isOut(state, kinds, arguments, i);
            if (isOut && TELL_UNKNOWN.indexOf(kinds.charAt(i)) >= 0) {
                return UNKNOWN;
            }
            isBad |= isOut;
        }
        boolean ofTwo = Set.of("doing", "before", "bargain").contains(name);
        if (isBad || ofTwo && arguments[0].equals(arguments[1])) {
            return BAD;
        }
        return isLate(state, name, arguments) ? LATE : isFull(state, name, arguments) ? FULL : 0;
    }

    private static boolean isLate(State state, String name, Object[] arguments) {
        switch (name) {
            case "hang": return arguments[0].equals(arguments[1]);
            case "undo": return state.doings == 0;
            case "rule": return !state.isText(0);
            case "order": return !state.isText(1);
            case "bargain":
            case "reword": return !state.isText(2);
            case "again": return !state.kept[(int) arguments[0]];
            case "since": return !state.kept[(int) arguments[1]];
            default: return false;
        }
    }

    private static boolean isFull(State state, String name, Object[] arguments) {
        switch (name) {
            case "doing": return state.doings == 24;
            case "write": return state.text.length() + (int) arguments[0] > 24;
            case "rule": return state.rules == 12;
            case "bargain": return state.bargains == 8;
            default: return false;
        }
    }

    private static int call(LeftOut x, String name, Object[] arguments) throws IllegalAccessException {
        try {
            return (int) FACE.get(name).invoke(x, arguments);
        } catch (InvocationTargetException e) {
            throw new IllegalStateException(name + Arrays.toString(arguments), e.getCause());
        }
    }

    private static String title(Object[] refused) {
        return refused[0] + Arrays.toString((Object[]) refused[1]);
    }

    private static void accepted(State state, String name, Object[] arguments) throws IllegalAccessException {
        int answer = call(state.make(), name, arguments);
        CHECK.holds(state.name + ": " + name + Arrays.toString(arguments) + " is not refused, but answered " + answer,
            answer >= 0 || answer == NONE);
    }

    /** What can be seen of an object of which some calls were refused, each way of looking on an object of its own. */
    private static int[][] allSeen(State state, List<Object[]> refused) throws IllegalAccessException {
        int[][] seen = new int[4][];
        for (int way = 0; way < seen.length; way++) {
            LeftOut x = state.make();
            for (Object[] r : refused) {
                int answer = call(x, (String) r[0], (Object[]) r[1]);
                if (way == 0) {
                    CHECK.due(state.name + ": " + title(r), answer, (int) r[2]);
                }
            }
            List<Integer> answers = new ArrayList<>();
            switch (way) {
                case 0 -> told(x, state, answers);
                case 1 -> read(x, state, answers);
                case 2 -> takenApart(x, state, answers);
                default -> undone(x, answers);
            }
            seen[way] = answers.stream().mapToInt(i -> i).toArray();
        }
        return seen;
    }

    private static void told(LeftOut x, State state, List<Integer> answers) {
        for (int i = 0; i < 5; i++) {
            answers.add(x.count(i));
            answers.add(x.fault(i % 3));
        }
        for (int i = 0; i < 24; i++) {
            answers.add(x.ordered(i / 6, i % 6));
            answers.add(x.knows(i % 5, i % 3));
        }
        for (int i = 0; i < 18; i++) {
            answers.add(x.custom(i % 3, i / 3));
        }
        for (int i = 0; i < 6 * state.rules; i++) {
            answers.add(x.ruled(i / 6, i % 6));
        }
        for (int i = 0; i < 6 * state.bargains; i++) {
            answers.add(x.said(i / 6, i % 6));
        }
    }

    private static void read(LeftOut x, State state, List<Integer> answers) {
        for (int b = 0; b < state.bargains; b++) {
            for (int order = 0; order < 4; order++) {
                answers.add(x.answer(b, order));
            }
            for (int gap = 0; gap < 6; gap++) {
                answers.add(x.reason(b, 0, gap));
            }
            answers.add(x.next(b, 0, 46655 - 1000 * b));
            answers.add(x.rounds(b, 1, false));
            answers.add(x.open(b, 0, false));
            answers.add(x.holds(b, 0));
            answers.add(x.part(b));
            answers.add(x.far(b, 0, 0));
            answers.add(x.far(b, 1, 1));
            answers.add(x.words(b, 3));
        }
        for (int gap = 0; gap < 6; gap++) {
            answers.add(x.best(0, gap));
            answers.add(x.worth(1, gap, 3));
        }
        answers.add(x.since(0, 0));
        answers.add(x.since(0, 1));
    }

    private static void takenApart(LeftOut x, State state, List<Integer> answers) {
        for (int gap = 0; gap < 6; gap++) {
            answers.add(x.gap(gap, 5));
            answers.add(x.need(gap, false));
            for (int b = 0; b < state.bargains; b++) {
                answers.add(x.think(b, 0, gap, 0));
                answers.add(x.think(b, 1, gap, 0));
            }
        }
        for (int b = 0; b < state.bargains; b++) {
            answers.add(x.next(b, 0, 0));
            answers.add(x.next(b, 0, Check.filling("123512")));
            answers.add(x.next(b, 3, Check.filling("524145")));
        }
        for (int gap = 0; gap < 6; gap++) {
            answers.add(x.hang(gap, NONE, 0));
        }
        for (int term = 0; term < 3; term++) {
            answers.add(x.term(term, 51 * (term / 2) + 1));
        }
        answers.add(x.wipe());
    }

    private static void undone(LeftOut x, List<Integer> answers) {
        for (int slot = 0; slot < 3; slot++) {
            for (int i = 0; i < 15; i++) {
                answers.add(x.tell(i / 3, i % 3, i % 2 == 0));
            }
            int left = 0;
            for (int i = 0; i < 25 && left >= 0; i++) {
                left = x.undo();
                answers.add(left);
                answers.add(x.before(left % 5 < 0 ? 0 : left % 5, (left + 2) % 5, Math.max(0, left % 6)));
            }
            answers.add(x.again(slot));
        }
    }

    /** Each refusal that a promise names was due at least once: the table above left none out. */
    private static void eachRefusalWasTold() {
        String named = "gap -1 -2, need -1, hang -1 -2 -3, doing -1 -2 -4, undo -3, tell -1, term -2, knows -1, "
            + "before -1 -2, custom -1, lacks -1 -2, write -2 -4, fault -1, rule -3 -4, unrule -1, ruled -1 -2, "
            + "order -1 -3, ordered -1, bargain -1 -2 -3 -4, reword -1 -3, said -1, next -1 -2, rounds -1, answer -1, "
            + "fills -1, reason -1, open -1, holds -1, judge -1 -2, differ -1, step -1, moves -1, think -1 -2, part -1, "
            + "far -1 -2, words -1 -2, worth -1 -2, best -1, keep -1, again -1 -3, since -1 -3, count -2";
        Set<String> due = new HashSet<>();
        for (String call : named.split(", ")) {
            String[] parts = call.split(" ");
            for (int i = 1; i < parts.length; i++) {
                due.add(parts[0] + " " + parts[i]);
            }
        }
        CHECK.holds("all refusals of the document and no other: " + TOLD.keySet(), TOLD.keySet().equals(due));
    }
}
