import java.lang.reflect.InvocationTargetException;
import java.lang.reflect.Method;
import java.util.HashMap;
import java.util.Map;
import java.util.Random;
import java.util.TreeMap;

/** Runs of 512 calls, the same ones each time, of which every answer must be the model's. */
public final class RandomRunsTest {
    private static final int RUNS = 600;
    private static final int CALLS = 512;

    /**
     * Each call, how often it comes, and of what kind its arguments are: g gap, h gap or NONE, v value, k number of
     * values or thought, ? yes or no, j seldom yes, p person, t trade, o order, b bargain, r rule,
     * f filling, s side, l slot, x kind of text, w what of a rule, c what of a count, m term, i letter of an order,
     * O orders as bits, n bytes, N long.
     */
    private static final String[] CALLS_OF_ALL = {
        "gap 2 gk", "need 4 g?", "hang 4 ghv", "doing 60 pptgvj", "undo 4", "tell 8 pt?", "term 3 m", "knows 3 pt",
        "before 3 ppg", "custom 3 tg", "lacks 3 tgv", "write 3 nN", "wipe 1", "fault 4 x", "rule 1", "unrule 2 r",
        "ruled 4 rw", "order 1 o", "ordered 3 oi", "bargain 1 ppt", "reword 1 b", "said 3 bg", "next 5 bof",
        "rounds 6 bo?", "answer 5 bo", "fills 3 bog", "reason 8 bog", "open 6 bo?", "holds 5 bo", "judge 4 bof",
        "differ 5 boo", "step 5 bo", "moves 5 bo", "think 5 bsgk", "part 4 b", "far 6 bos", "words 6 bO",
        "worth 5 ogv", "best 5 og", "keep 2 l", "again 2 l", "since 5 ol", "count 3 c",
    };

    private static final Map<String, Method> FACE = methods(LeftOut.class);
    private static final Map<String, Method> MODEL = methods(Model.class);
    private static final Map<String, Integer> GOOD = new TreeMap<>();

    private final Random random;
    /** How far the usual arguments of this run go: in a narrow run much comes of like doings and rules. */
    private final int people;
    private final int trades;
    private final int gaps;
    private final int values;
    private final LeftOut real = new LeftOut();
    private final Model model = new Model();
    private final StringBuilder told = new StringBuilder();
    private int calls = 0;
    private boolean isRight = true;

    private RandomRunsTest(long seed) {
        random = new Random(seed);
        people = 2 + random.nextInt(3);
        trades = 1 + random.nextInt(3);
        gaps = 1 + random.nextInt(6);
        values = 1 + random.nextInt(5);
    }

    public static void main(String[] args) throws IllegalAccessException {
        Check check = new Check();
        for (int seed = 0; seed < RUNS; seed++) {
            RandomRunsTest run = new RandomRunsTest(seed);
            run.run();
            check.holds("run " + seed + " of " + run.calls + " calls", run.isRight);
        }
        for (String call : CALLS_OF_ALL) {
            String name = call.split(" ")[0];
            check.holds(name + " was answered often", GOOD.getOrDefault(name, 0) > RUNS / 12);
        }
        check.holds("each call comes", CALLS_OF_ALL.length + 1 == 44 && MODEL.keySet().containsAll(FACE.keySet()));
        check.end("RandomRunsTest");
    }

    private static Map<String, Method> methods(Class<?> of) {
        Map<String, Method> methods = new HashMap<>();
        for (Method m : of.getDeclaredMethods()) {
            if (java.lang.reflect.Modifier.isPublic(m.getModifiers())) {
                methods.put(m.getName(), m);
            }
        }
        return methods;
    }

    private void run() throws IllegalAccessException {
        if (random.nextInt(4) > 0) {
            begin();
        }
        int all = 0;
        for (String call : CALLS_OF_ALL) {
            all += Integer.parseInt(call.split(" ")[1]);
        }
        while (calls < CALLS && isRight) {
            int turn = random.nextInt(12);
            if (turn == 0) {
                text();
                continue;
            }
            if (turn < 3) {
                agree();
                continue;
            }
            int place = random.nextInt(all);
            int i = 0;
            while (place >= Integer.parseInt(CALLS_OF_ALL[i].split(" ")[1])) {
                place -= Integer.parseInt(CALLS_OF_ALL[i].split(" ")[1]);
                i++;
            }
            String[] parts = CALLS_OF_ALL[i].split(" ");
            call(parts[0], arguments(parts.length < 3 ? "" : parts[2]));
        }
        if (!isRight) {
            System.out.println(told);
        }
    }

    /** Gaps with values and some bargains, so that most readings have something to fill. */
    private void begin() throws IllegalAccessException {
        for (int gap = 0; gap < 6; gap++) {
            call("gap", new Object[] {gap, random.nextInt(3) == 0 ? 5 : value()});
        }
        for (int i = random.nextInt(6); i > 0; i--) {
            write(sayings());
            call("bargain", arguments("ppt"));
        }
        for (int i = random.nextInt(12); i > 0; i--) {
            write(rule());
            call("rule", new Object[0]);
        }
    }

    /** Both sides think the same of a gap: what the answer is, or another thing, or nothing. */
    private void agree() throws IllegalAccessException {
        int bargain = any(Math.max(1, model.count(4)));
        int gap = any(6);
        int v = random.nextInt(3) == 0 ? value() : model.fills(bargain, any(4), gap);
        if (random.nextInt(3) == 0 || v < 0) {
            v = 0;
        }
        call("think", new Object[] {bargain, 0, gap, v});
        call("think", new Object[] {bargain, 1, gap, v});
    }

    private int value() {
        return 1 + random.nextInt(values);
    }

    /** A text of a kind, now and then with one sign wrong, and what it is for. */
    private void text() throws IllegalAccessException {
        int kind = random.nextInt(4);
        write(kind == 0 ? rule() : kind == 1 ? order() : sayings());
        if (random.nextInt(4) == 0) {
            call("fault", new Object[] {random.nextInt(3)});
        }
        String[] uses = {"rule ", "order o", "bargain ppt", "reword b"};
        String[] use = uses[kind].split(" ");
        call(use[0], arguments(use.length < 2 ? "" : use[1]));
    }

    private void write(String signs) throws IllegalAccessException {
        StringBuilder text = new StringBuilder(signs);
        if (random.nextInt(8) == 0 && text.length() > 0) {
            text.setCharAt(random.nextInt(text.length()), "012345=?@LBMWDCX".charAt(random.nextInt(16)));
        }
        call("wipe", new Object[0]);
        for (int i = 0; i < text.length();) {
            int n = Math.min(1 + random.nextInt(8), text.length() - i);
            long v = random.nextInt();
            for (int j = 0; j < n; j++) {
                v = v << 8 | text.charAt(i + j);
            }
            call("write", new Object[] {n, v});
            i += n;
        }
    }

    private String rule() {
        StringBuilder s = new StringBuilder();
        s.append("LLBMM".charAt(random.nextInt(5))).append(random.nextInt(gaps)).append('=').append(value());
        if (random.nextInt(4) > 0) {
            s.append('?').append(random.nextInt(gaps)).append('=').append(random.nextInt(values + 1));
        }
        if (random.nextInt(4) == 0) {
            s.append('@').append(random.nextInt(3));
        }
        return s.toString();
    }

    private String order() {
        StringBuilder left = new StringBuilder("WDCLM");
        StringBuilder s = new StringBuilder();
        for (int i = 1 + random.nextInt(5); i > 0; i--) {
            int at = random.nextInt(left.length());
            s.append(left.charAt(at));
            left.deleteCharAt(at);
        }
        return s.toString();
    }

    private String sayings() {
        StringBuilder s = new StringBuilder();
        for (int gap = 0; gap < 6; gap++) {
            if (random.nextInt(6) == 0) {
                s.append(gap).append('=').append(value());
            }
        }
        for (char letter : "DCL".toCharArray()) {
            if (random.nextInt(8) == 0) {
                s.append('X').append(letter);
            }
        }
        return s.toString();
    }

    private Object[] arguments(String kinds) {
        if (kinds.equals("m")) {
            int what = any(3);
            return new Object[] {what, what == 2 ? 45 + random.nextInt(60) : random.nextInt(12)};
        }
        Object[] arguments = new Object[kinds.length()];
        for (int i = 0; i < arguments.length; i++) {
            arguments[i] = argument(kinds.charAt(i));
        }
        return arguments;
    }

    private Object argument(char kind) {
        switch (kind) {
            case 'g': return random.nextInt(4) > 0 ? any(gaps) : any(6);
            case 'h': return random.nextInt(3) == 0 ? LeftOut.NONE : any(6);
            case 'v':
            case 'k': return random.nextInt(6) > 0 ? value() : any(6);
            case '?': return random.nextInt(2) == 0;
            case 'j': return random.nextInt(12) == 0;
            case 'p': return random.nextInt(6) > 0 ? random.nextInt(people) : any(5);
            case 't': return random.nextInt(6) > 0 ? random.nextInt(trades) : any(3);
            case 'o': return any(4);
            case 'b': return any(Math.max(1, model.count(4)));
            case 'r': return any(Math.max(1, model.count(3)));
            case 'f': return any(46656);
            case 's': return any(2);
            case 'l': return any(2);
            case 'x': return any(3);
            case 'w': return any(6);
            case 'c': return any(5);
            case 'i': return any(5);
            case 'O': return random.nextInt(2) == 0 ? 1 << random.nextInt(4) : any(16);
            case 'n': return random.nextInt(12) - 1;
            default: return random.nextLong();
        }
    }

    /** A number below a size, now and then one beyond it. */
    private int any(int size) {
        int[] beyond = {-1, size, size + 1, -9, Integer.MIN_VALUE, Integer.MAX_VALUE};
        return random.nextInt(24) == 0 ? beyond[random.nextInt(beyond.length)] : random.nextInt(size);
    }

    private void call(String name, Object[] arguments) throws IllegalAccessException {
        if (calls >= CALLS || !isRight) {
            return;
        }
        calls++;
        String title = name + java.util.Arrays.toString(arguments);
        try {
            int want = (int) MODEL.get(name).invoke(model, arguments);
            told.append(title).append(" due is ").append(want).append('\n');
            int got = (int) FACE.get(name).invoke(real, arguments);
            isRight = got == want;
            told.append(isRight ? "" : "but answered " + got + "\n");
            GOOD.merge(name, want >= 0 ? 1 : 0, Integer::sum);
        } catch (InvocationTargetException e) {
            told.append(title).append(" ended with ").append(e.getCause()).append('\n');
            isRight = false;
        }
    }
}
