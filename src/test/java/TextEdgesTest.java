import java.util.ArrayList;
import java.util.List;

/** The edges that section 2 names: 24 bytes, each byte at each place of each kind, 12 rules, 4 orders, 8 bargains. */
public final class TextEdgesTest {
    private static final Check CHECK = new Check();
    private static final int RULE = 0, ORDER = 1, SAYINGS = 2;

    /** A text, and which signs may stand behind it. */
    private static final String[][] BEHIND_RULES = {
        {"", "LBM"}, {"L", "012345"}, {"B", "012345"}, {"M", "012345"}, {"L0", "="}, {"L5", "="}, {"L0=", "12345"},
        {"L0=1", "?@"}, {"B5=5", "?@"}, {"L0=1?", "012345"}, {"L0=1?0", "="}, {"L0=1?5", "="}, {"L0=1?0=", "012345"},
        {"L0=1?0=0", "@"}, {"M3=2?4=5", "@"}, {"L0=1?0=0@", "012"}, {"L0=1?0=0@0", ""}, {"L0=1?0=0@2", ""},
        {"L0=1@", "012"}, {"L0=1@0", ""}, {"L0=1@2", ""},
    };
    private static final String[][] BEHIND_ORDERS = {
        {"", "WDCLM"}, {"W", "DCLM"}, {"D", "WCLM"}, {"C", "WDLM"}, {"L", "WDCM"}, {"M", "WDCL"}, {"MW", "DCL"},
        {"LCD", "WM"}, {"WDCL", "M"}, {"MLCD", "W"}, {"WDCLM", ""}, {"MLCDW", ""},
    };
    private static final String[][] BEHIND_SAYINGS = {
        {"", "012345X"}, {"0", "="}, {"5", "="}, {"0=", "12345"}, {"5=", "12345"}, {"0=1", "12345X"},
        {"5=5", "01234X"}, {"3=2", "01245X"}, {"X", "DCL"}, {"XD", "012345X"}, {"XDX", "CL"}, {"XLX", "DC"},
        {"XCXD", "012345X"}, {"XCXDX", "L"}, {"XCXDXL", "012345"}, {"XCXDXL4=4", "01235"}, {"0=1XC5=2X", "DL"},
        {"0=11=12=13=14=1", "5X"}, {"0=11=12=13=14=15=1", "X"}, {"0=11=12=13=14=15=1X", "DCL"},
        {"0=11=12=13=14=15=1XDXL", "X"}, {"0=11=12=13=14=15=1XDXLX", "C"}, {"XDXLXC0=11=12=13=14=1", "5"},
        {"XDXLXC0=11=12=13=14=15", "="}, {"XDXLXC0=11=12=13=14=15=", "12345"},
    };

    public static void main(String[] args) {
        longAsItMayBe();
        whichBytesCome();
        anyByteAnywhere(RULE, BEHIND_RULES);
        anyByteAnywhere(ORDER, BEHIND_ORDERS);
        anyByteAnywhere(SAYINGS, BEHIND_SAYINGS);
        emptyAndFull();
        allRules();
        upToTwelveRules();
        unruleAtTheEnds();
        nothingOfARuleThatIsGone();
        allOrders();
        ordersAtFirst();
        allSayings();
        upToEightBargains();
        whoBargains();
        rewordEachBargain();
        CHECK.end("TextEdgesTest");
    }

    private static void longAsItMayBe() {
        for (int length = 0; length <= 24; length++) {
            for (int n = 1; n <= 8; n++) {
                LeftOut x = new LeftOut();
                for (int i = 0; i < length; i++) {
                    CHECK.due("13: one by one", x.write(1, 'X'), i + 1);
                }
                boolean fits = length + n <= 24;
                CHECK.due("13: " + n + " behind " + length, x.write(n, 0), fits ? length + n : LeftOut.FULL);
                CHECK.due("13: nothing comes, or all", x.count(2), fits ? length + n : length);
                CHECK.due("14: how long it was", x.wipe(), fits ? length + n : length);
                CHECK.due("14: it is empty", x.wipe(), 0);
            }
        }
        for (int n : new int[] {Integer.MIN_VALUE, -1, 0, 9, 24, Integer.MAX_VALUE}) {
            LeftOut x = new LeftOut();
            CHECK.due("13: " + n + " bytes", x.write(n, 'W'), LeftOut.BAD);
            CHECK.due("13: nothing comes", x.count(2), 0);
            Check.text(x, "0=11=12=13=14=15=1XDXCXL");
            CHECK.due("13: bad, though it is full", x.write(n, 'W'), LeftOut.BAD);
        }
    }

    /** The lowest n of eight, whatever the others are, and no bit of them less. */
    private static void whichBytesCome() {
        for (long above : new long[] {0L, -1L, Long.MIN_VALUE, Long.MAX_VALUE, 0x5744434c4d574443L}) {
            for (int n = 1; n <= 5; n++) {
                LeftOut x = new LeftOut();
                long v = above;
                for (int i = 0; i < n; i++) {
                    v = v << 8 | "MLCDW".charAt(i);
                }
                CHECK.due("13: " + n + " of eight", x.write(n, v), n);
                CHECK.due("13: they are an order", x.order(2), n);
                for (int i = 0; i < n; i++) {
                    CHECK.due("13: the highest first", x.ordered(2, i), 4 - i);
                }
            }
        }
        for (int place = 0; place < 8; place++) {
            for (int bit = 0; bit < 8; bit++) {
                LeftOut x = new LeftOut();
                long v = 0x4c303d313f323d30L ^ 1L << 8 * (7 - place) + bit;
                x.write(8, v);
                int fault = x.fault(RULE);
                boolean still = (char) (v >> 8 * (7 - place) & 255) != 0 && fault == LeftOut.NONE;
                CHECK.due("13: byte " + place + " with bit " + bit, fault, still ? LeftOut.NONE : place);
                CHECK.holds("13: the highest bit is looked at", bit < 7 || fault == place);
            }
        }
    }

    private static boolean isWhole(int kind, String text) {
        switch (kind) {
            case RULE: return text.matches("[LBM][0-5]=[1-5](\\?[0-5]=[0-5])?(@[0-2])?");
            case ORDER: return !text.isEmpty();
            default: return text.matches("([0-5]=[1-5]|X[DCL])*");
        }
    }

    /** Each of 256 bytes behind each of some texts: the fault is there, or behind it, or there is none. */
    private static void anyByteAnywhere(int kind, String[][] behind) {
        for (String[] row : behind) {
            String head = row[0];
            int atEnd = isWhole(kind, head) ? LeftOut.NONE : head.length();
            CHECK.due("15: " + kind + " of " + head, Check.fault(new LeftOut(), kind, head), atEnd);
            for (int b = 0; b < 256; b++) {
                String text = head + (char) b;
                int want = head.length();
                if (row[1].indexOf(b) >= 0) {
                    want = isWhole(kind, text) ? LeftOut.NONE : text.length();
                }
                LeftOut x = new LeftOut();
                CHECK.due("15: " + kind + " of " + head + " and byte " + b, Check.fault(x, kind, text), want);
                if (want == head.length() && text.length() < 24) {
                    CHECK.due("15: whatever comes behind it", Check.fault(x, kind, text + "1"), want);
                    x.write(24 - x.count(2) < 8 ? 1 : 8, 0x30303d313f303d31L);
                    CHECK.due("15: whatever comes behind it", x.fault(kind), want);
                }
                refusedOrNot(x, kind, want == LeftOut.NONE);
            }
        }
    }

    private static void refusedOrNot(LeftOut x, int kind, boolean is) {
        int refused = is ? 0 : LeftOut.LATE;
        switch (kind) {
            case RULE:
                CHECK.due("16: a fault, or none", x.rule(), refused);
                break;
            case ORDER:
                CHECK.due("19: a fault, or none", Math.min(x.order(0), 0), refused);
                break;
            default:
                CHECK.due("21: a fault, or none", x.bargain(0, 1, 0), refused);
        }
        CHECK.due("16: so many", x.count(3), is && kind == RULE ? 1 : 0);
        CHECK.due("21: so many", x.count(4), is && kind == SAYINGS ? 1 : 0);
    }

    private static void emptyAndFull() {
        LeftOut x = new LeftOut();
        CHECK.due("15: nothing is no rule", x.fault(RULE), 0);
        CHECK.due("15: nothing is no order", x.fault(ORDER), 0);
        CHECK.due("15: nothing is sayings", x.fault(SAYINGS), LeftOut.NONE);
        CHECK.due("16: no rule", x.rule(), LeftOut.LATE);
        CHECK.due("19: no order", x.order(0), LeftOut.LATE);
        CHECK.due("21: sayings", x.bargain(0, 1, 0), 0);
        CHECK.due("22: sayings", x.reword(0), 0);
        for (String full : new String[] {"0=11=22=33=44=55=1XDXCXL", "XLXCXD5=14=23=32=41=50=1", "XC5=5XL4=43=3XD2=21=10=5"}) {
            CHECK.due("15: 24 bytes", Check.fault(x, SAYINGS, full), LeftOut.NONE);
            CHECK.due("22: 24 bytes", x.reword(0), 6);
            for (int gap = 0; gap < 6; gap++) {
                int at = full.indexOf(gap + "=");
                CHECK.due("23: of 24 bytes", x.said(0, gap), full.charAt(at + 2) - '0');
            }
            for (int i = 0; i < 24; i++) {
                String wrong = full.substring(0, i) + "!" + full.substring(i + 1);
                CHECK.due("15: one of 24 bytes wrong", Check.fault(x, SAYINGS, wrong), i);
                CHECK.due("15: so many alone", Check.fault(new LeftOut(), SAYINGS, full.substring(0, i)),
                    isWhole(SAYINGS, full.substring(0, i)) ? LeftOut.NONE : i);
            }
            x = new LeftOut();
            x.bargain(0, 1, 0);
        }
        for (int kind : new int[] {-1, 3, LeftOut.NONE, Integer.MIN_VALUE, Integer.MAX_VALUE}) {
            CHECK.due("15: no kind " + kind, x.fault(kind), LeftOut.UNKNOWN);
        }
    }

    private static void allRules() {
        List<String> ifs = new ArrayList<>(List.of(""));
        for (int i = 0; i < 36; i++) {
            ifs.add("?" + i / 6 + "=" + i % 6);
        }
        for (int head = 0; head < 90; head++) {
            for (String condition : ifs) {
                LeftOut x = new LeftOut();
                for (int trade = LeftOut.NONE; trade < 3; trade = Math.max(trade + 1, trade < 0 ? 0 : 1)) {
                    String rule = "LBM".charAt(head / 30) + "" + head / 5 % 6 + "=" + (1 + head % 5) + condition;
                    int ifGap = condition.isEmpty() ? LeftOut.NONE : condition.charAt(1) - '0';
                    int ifValue = condition.isEmpty() ? LeftOut.NONE : condition.charAt(3) - '0';
                    int number = Check.rule(x, trade < 0 ? rule : rule + "@" + trade);
                    int[] want = {head / 30, head / 5 % 6, 1 + head % 5, ifGap, ifValue, trade};
                    for (int what = 0; what < 6; what++) {
                        CHECK.due("18: " + rule + " in trade " + trade + ", " + what, x.ruled(number, what), want[what]);
                    }
                }
                CHECK.due("16: four rules", x.count(3), 4);
            }
        }
    }

    private static void upToTwelveRules() {
        LeftOut x = new LeftOut();
        CHECK.due("17: no rule at first", x.unrule(0), LeftOut.UNKNOWN);
        CHECK.due("18: no rule at first", x.ruled(0, 0), LeftOut.UNKNOWN);
        for (int i = 0; i < 12; i++) {
            CHECK.due("16: its number", Check.rule(x, "L" + i % 6 + "=" + (1 + i / 6)), i);
            CHECK.due("18: there is none behind it", x.ruled(i + 1, 0), LeftOut.UNKNOWN);
        }
        CHECK.due("16: a thirteenth", x.rule(), LeftOut.FULL);
        CHECK.due("16: a thirteenth with a fault", Check.rule(x, ""), LeftOut.LATE);
        CHECK.due("15: a text can be tried nevertheless", Check.fault(x, RULE, "B5=5?5=5@2"), LeftOut.NONE);
        for (int i = 0; i < 12; i++) {
            CHECK.due("18: each stays", x.ruled(i, 0) * 100 + x.ruled(i, 1) * 10 + x.ruled(i, 2), i % 6 * 10 + 1 + i / 6);
        }
        CHECK.due("17: one less", x.unrule(11), 11);
        CHECK.due("16: room for one", x.rule(), 11);
        CHECK.due("16: and no more", x.rule(), LeftOut.FULL);
        CHECK.due("18: the last one", x.ruled(11, 5), 2);
    }

    private static void unruleAtTheEnds() {
        for (int gone = 0; gone < 12; gone++) {
            LeftOut x = new LeftOut();
            for (int i = 0; i < 12; i++) {
                Check.rule(x, "L" + i % 6 + "=" + (1 + i / 6));
            }
            CHECK.due("17: how many are left", x.unrule(gone), 11);
            for (int i = 0; i < 11; i++) {
                int old = i < gone ? i : i + 1;
                CHECK.due("17: later ones move up", x.ruled(i, 1) + 6 * x.ruled(i, 2) - 6, old);
            }
            CHECK.due("17: there is no twelfth", x.ruled(11, 0), LeftOut.UNKNOWN);
            CHECK.due("17: none to take away there", x.unrule(11), LeftOut.UNKNOWN);
            CHECK.due("44: rules", x.count(3), 11);
        }
    }

    /** A rule with neither IF nor trade is told where one with both was, or where one with both was tried. */
    private static void nothingOfARuleThatIsGone() {
        for (String gone : new String[] {"B5=5?4=3@2", "B5=5?4=3", "B5=5@2"}) {
            LeftOut x = new LeftOut();
            Check.rule(x, gone);
            x.unrule(0);
            Check.rule(x, "L0=1");
            CHECK.due("15: a rule", Check.fault(x, RULE, gone), LeftOut.NONE);
            Check.rule(x, "M1=2");
            CHECK.due("16: a fault", Check.rule(x, gone + "!"), LeftOut.LATE);
            Check.rule(x, "L2=3");
            for (int rule = 0; rule < 3; rule++) {
                int[] want = {rule == 1 ? 2 : 0, rule, 1 + rule, LeftOut.NONE, LeftOut.NONE, LeftOut.NONE};
                for (int what = 0; what < 6; what++) {
                    CHECK.due("18: " + what + " of rule " + rule + ", behind " + gone, x.ruled(rule, what), want[what]);
                }
            }
        }
    }

    private static void allOrders() {
        allOrders("");
        LeftOut x = new LeftOut();
        for (int order = 0; order < 4; order++) {
            Check.order(x, order, "DM".substring(order % 2));
        }
        for (int order = 0; order < 4; order++) {
            CHECK.due("19: each for itself", x.ordered(order, 0), order % 2 == 0 ? 1 : 4);
            CHECK.due("20: as many letters as it has", x.ordered(order, 1), order % 2 == 0 ? 4 : LeftOut.NONE);
        }
    }

    private static void allOrders(String head) {
        for (char letter : "WDCLM".toCharArray()) {
            if (head.indexOf(letter) < 0) {
                String letters = head + letter;
                LeftOut x = new LeftOut();
                int order = letters.charAt(0) % 4;
                CHECK.due("19: " + letters, Check.order(x, order, letters), letters.length());
                for (int i = -1; i <= 5; i++) {
                    boolean is = i >= 0 && i < letters.length();
                    int want = is ? "WDCLM".indexOf(letters.charAt(i)) : LeftOut.NONE;
                    CHECK.due("20: letter " + i + " of " + letters, x.ordered(order, i), want);
                    CHECK.due("20: the others stay", x.ordered((order + 1) % 4, i), i >= 0 && i < 5 ? i : LeftOut.NONE);
                }
                allOrders(letters);
            }
        }
    }

    private static void ordersAtFirst() {
        LeftOut x = new LeftOut();
        for (int order = 0; order < 4; order++) {
            for (int i : new int[] {5, 6, -1, LeftOut.NONE, Integer.MIN_VALUE, Integer.MAX_VALUE}) {
                CHECK.due("20: five letters and no more", x.ordered(order, i), LeftOut.NONE);
            }
            for (int i = 0; i < 5; i++) {
                CHECK.due("20: WDCLM", x.ordered(order, i), i);
            }
        }
        for (int order : new int[] {-1, 4, LeftOut.NONE, Integer.MIN_VALUE, Integer.MAX_VALUE}) {
            CHECK.due("20: no order " + order, x.ordered(order, 0), LeftOut.UNKNOWN);
            CHECK.due("19: no order " + order, Check.order(x, order, "W"), LeftOut.UNKNOWN);
            CHECK.due("19: no order, with a fault", Check.order(x, order, "X"), LeftOut.UNKNOWN);
        }
    }

    private static void allSayings() {
        for (int set = 0; set < 64; set++) {
            StringBuilder text = new StringBuilder();
            for (int gap = 5; gap >= 0; gap--) {
                if ((set >> gap & 1) == 1) {
                    text.append(gap).append('=').append(1 + (gap + set) % 5);
                }
            }
            LeftOut x = new LeftOut();
            Check.bargain(x, 0, 1, 0, "0=51=52=53=54=55=5");
            CHECK.due("22: how many gaps", Check.reword(x, 0, text.toString()), Integer.bitCount(set));
            CHECK.due("21: the same", x.bargain(1, 0, 0), 1);
            for (int gap = 0; gap < 6; gap++) {
                int want = (set >> gap & 1) == 1 ? 1 + (gap + set) % 5 : 0;
                CHECK.due("23: instead of the old ones", x.said(0, gap), want);
                CHECK.due("23: from the first", x.said(1, gap), want);
            }
        }
    }

    private static void upToEightBargains() {
        LeftOut x = new LeftOut();
        CHECK.due("23: none at first", x.said(0, 0), LeftOut.UNKNOWN);
        CHECK.due("22: none at first", x.reword(0), LeftOut.UNKNOWN);
        for (int i = 0; i < 8; i++) {
            CHECK.due("21: its number", Check.bargain(x, i % 5, (i + 1) % 5, i % 3, i % 6 + "=5"), i);
            CHECK.due("23: there is none behind it", x.said(i + 1, 0), LeftOut.UNKNOWN);
        }
        CHECK.due("21: a ninth", x.bargain(0, 1, 0), LeftOut.FULL);
        CHECK.due("21: a ninth with a fault", Check.bargain(x, 0, 1, 0, "="), LeftOut.LATE);
        CHECK.due("21: a ninth of one", x.bargain(1, 1, 0), LeftOut.BAD);
        CHECK.due("21: a ninth of nobody", x.bargain(1, 5, 0), LeftOut.UNKNOWN);
        for (int i = 0; i < 8; i++) {
            CHECK.due("23: each stays", x.said(i, i % 6), 5);
        }
        CHECK.due("22: the last can be reworded", Check.reword(x, 7, "XD"), 0);
        CHECK.due("44: bargains", x.count(4), 8);
    }

    private static void whoBargains() {
        for (int a = 0; a < 5; a++) {
            for (int b = 0; b < 5; b++) {
                LeftOut x = new LeftOut();
                for (int trade = 0; trade < 3; trade++) {
                    CHECK.due("21: of " + a + " and " + b, x.bargain(a, b, trade), a == b ? LeftOut.BAD : trade);
                }
                CHECK.due("44: bargains", x.count(4), a == b ? 0 : 3);
            }
        }
    }

    private static void rewordEachBargain() {
        for (int own = 0; own < 8; own++) {
            LeftOut x = new LeftOut();
            for (int i = 0; i < 8; i++) {
                Check.bargain(x, 0, 1, 0, "0=1");
            }
            CHECK.due("22: one gap", Check.reword(x, own, "5=5XL"), 1);
            for (int i = 0; i < 8; i++) {
                CHECK.due("22: just this one", x.said(i, 0) * 10 + x.said(i, 5), i == own ? 5 : 10);
            }
        }
    }
}
