/** Promises 13 to 23: THE TEXT, and the rules, orders and sayings that are read from it. */
public final class TextsTest {
    private static final Check CHECK = new Check();

    public static void main(String[] args) {
        writeAndWipe();
        faultOfRules();
        faultOfOrders();
        faultOfSayings();
        faultMakesNothing();
        rule();
        unrule();
        ruled();
        order();
        ordered();
        bargain();
        reword();
        said();
        CHECK.end("TextsTest");
    }

    private static void writeAndWipe() {
        LeftOut x = new LeftOut();
        CHECK.due("13: none", x.write(0, 65), LeftOut.BAD);
        CHECK.due("13: too many", x.write(9, 65), LeftOut.BAD);
        CHECK.due("13: fewer than none", x.write(-1, 65), LeftOut.BAD);
        CHECK.due("14: nothing was written", x.wipe(), 0);
        CHECK.due("13: the lowest three", x.write(3, 0x7f7f7f7f_574443L), 3);
        CHECK.due("13: behind it", x.write(2, 0x4c4dL), 5);
        CHECK.due("13: the highest first", x.fault(1), LeftOut.NONE);
        CHECK.due("13: WDCLM", x.order(0), 5);
        CHECK.due("13: W first", x.ordered(0, 0), 0);
        CHECK.due("13: M last", x.ordered(0, 4), 4);
        CHECK.due("14: how long it was", x.wipe(), 5);
        CHECK.due("14: empty", x.count(2), 0);
        CHECK.due("13: eight", x.write(8, 0x303d31313d323233L), 8);
        CHECK.due("13: eight in order", x.fault(2), 7);
        CHECK.due("13: sixteen", x.write(8, -1L), 16);
        CHECK.due("13: twenty-four", x.write(8, 1L), 24);
        CHECK.due("13: too long", x.write(1, 1L), LeftOut.FULL);
        CHECK.due("13: bad comes before full", x.write(9, 1L), LeftOut.BAD);
        CHECK.due("14: how long it was", x.wipe(), 24);
        x.write(8, 0L);
        x.write(8, 0L);
        x.write(5, 0L);
        CHECK.due("13: four would be too many", x.write(4, 0L), LeftOut.FULL);
        CHECK.due("13: nothing came", x.count(2), 21);
        CHECK.due("13: three will do", x.write(3, 0L), 24);
        x.wipe();
        x.write(1, 0x157L);
        CHECK.due("13: bytes, not signs", x.fault(1), LeftOut.NONE);
    }

    private static void fault(int kind, String signs, int want) {
        CHECK.due("15: fault of kind " + kind + " in " + signs, Check.fault(new LeftOut(), kind, signs), want);
    }

    private static void faultOfRules() {
        fault(0, "", 0);
        for (String whole : new String[] {"L0=1", "B5=5", "M3=2?0=0", "L0=1?5=5", "B0=1@0", "L2=3?2=0@2"}) {
            fault(0, whole, LeftOut.NONE);
            fault(0, whole + "L", whole.length());
            fault(0, whole + "?", whole.length() == 4 ? 5 : whole.length());
            for (int i = 0; i < whole.length(); i++) {
                String head = whole.substring(0, i);
                boolean isWhole = i == 4 || i == 8 && whole.charAt(4) == '?';
                fault(0, head, isWhole ? LeftOut.NONE : i);
                fault(0, head + "x" + whole.substring(i + 1), i);
            }
        }
        fault(0, "W0=1", 0);
        fault(0, "l0=1", 0);
        fault(0, "L6=1", 1);
        fault(0, "L0=0", 3);
        fault(0, "L0=6", 3);
        fault(0, "L0=1?6=1", 5);
        fault(0, "L0=1?0=6", 7);
        fault(0, "L0=1@3", 5);
        fault(0, "L0=1@1?0=1", 6);
        fault(0, "L0=1@", 5);
    }

    private static void faultOfOrders() {
        fault(1, "", 0);
        for (String whole : new String[] {"W", "D", "C", "L", "M", "ML", "WDCLM", "MLCDW"}) {
            fault(1, whole, LeftOut.NONE);
            fault(1, whole + "B", whole.length());
            fault(1, whole + whole, whole.length());
        }
        fault(1, "WDW", 2);
        fault(1, "WDCLMW", 5);
        fault(1, "w", 0);
        fault(1, "WX", 1);
    }

    private static void faultOfSayings() {
        fault(2, "", LeftOut.NONE);
        fault(2, "0=1", LeftOut.NONE);
        fault(2, "0", 1);
        fault(2, "0=", 2);
        fault(2, "0=0", 2);
        fault(2, "0=6", 2);
        fault(2, "6=1", 0);
        fault(2, "01", 1);
        fault(2, "0=10=1", 3);
        fault(2, "5=5XD0=1", LeftOut.NONE);
        fault(2, "X", 1);
        fault(2, "XW", 1);
        fault(2, "XM", 1);
        fault(2, "XB", 1);
        fault(2, "XDXD", 3);
        fault(2, "XLXCXD", LeftOut.NONE);
        fault(2, "XLXCXDX", 6);
        fault(2, "XLXCXDXL", 6);
        fault(2, "XLXC1=1X", 8);
        fault(2, "0=11=12=13=14=15=1XDXCXL", LeftOut.NONE);
        fault(2, "0=11=12=13=14=15=1XDXC6", 22);
        fault(2, "0=11=12=13=14=15=10", 18);
    }

    private static void faultMakesNothing() {
        LeftOut x = new LeftOut();
        Check.text(x, "L0=1");
        CHECK.due("15: a rule", x.fault(0), LeftOut.NONE);
        CHECK.due("15: no order", x.fault(1), 1);
        CHECK.due("15: no sayings", x.fault(2), 0);
        CHECK.due("15: no such kind", x.fault(3), LeftOut.UNKNOWN);
        CHECK.due("15: no such kind", x.fault(-1), LeftOut.UNKNOWN);
        CHECK.due("15: the text stays", x.count(2), 4);
        CHECK.due("15: nothing is made", x.count(3) + x.count(4), 0);
    }

    private static void rule() {
        LeftOut x = new LeftOut();
        CHECK.due("16: no text", x.rule(), LeftOut.LATE);
        for (int i = 0; i < 12; i++) {
            CHECK.due("16: its number", Check.rule(x, "L0=1"), i);
        }
        CHECK.due("16: the text stays", x.count(2), 4);
        CHECK.due("16: full", x.rule(), LeftOut.FULL);
        CHECK.due("16: late comes before full", Check.rule(x, "L0="), LeftOut.LATE);
        CHECK.due("16: the rules stay", x.ruled(11, 2), 1);
        CHECK.due("16: so many", x.count(3), 12);
    }

    private static void unrule() {
        LeftOut x = new LeftOut();
        for (int i = 0; i < 12; i++) {
            Check.rule(x, "L" + i % 6 + "=" + (1 + i % 5));
        }
        CHECK.due("17: how many are left", x.unrule(3), 11);
        CHECK.due("17: earlier ones stay", x.ruled(2, 1), 2);
        CHECK.due("17: later ones move up", x.ruled(3, 1), 4);
        CHECK.due("17: the last one moved up", x.ruled(10, 1), 5);
        CHECK.due("17: no such rule", x.unrule(11), LeftOut.UNKNOWN);
        CHECK.due("17: no such rule", x.unrule(-1), LeftOut.UNKNOWN);
        CHECK.due("17: one comes behind", Check.rule(x, "M5=5?1=0@2"), 11);
        CHECK.due("17: the new one", x.ruled(11, 5), 2);
        CHECK.due("17: not the one ahead of it", x.ruled(10, 5), LeftOut.NONE);
        x.unrule(11);
        CHECK.due("17: another one comes behind", Check.rule(x, "L0=1"), 11);
        for (int what = 3; what < 6; what++) {
            CHECK.due("17: nothing of the one that is gone", x.ruled(11, what), LeftOut.NONE);
        }
        for (int left = 11; left >= 0; left--) {
            CHECK.due("17: how many are left", x.unrule(0), left);
        }
        CHECK.due("17: none is left", x.unrule(0), LeftOut.UNKNOWN);
        CHECK.due("17: none", x.count(3), 0);
    }

    private static void ruled() {
        LeftOut x = new LeftOut();
        Check.rule(x, "L0=1");
        Check.rule(x, "B5=2?3=0");
        Check.rule(x, "M1=5@2");
        Check.rule(x, "B2=3?4=5@0");
        int[][] want = {
            {0, 0, 1, LeftOut.NONE, LeftOut.NONE, LeftOut.NONE},
            {1, 5, 2, 3, 0, LeftOut.NONE},
            {2, 1, 5, LeftOut.NONE, LeftOut.NONE, 2},
            {1, 2, 3, 4, 5, 0},
        };
        for (int r = 0; r < 4; r++) {
            for (int what = 0; what < 6; what++) {
                CHECK.due("18: rule " + r + ", " + what, x.ruled(r, what), want[r][what]);
            }
        }
        CHECK.due("18: no such part", x.ruled(0, 6), LeftOut.BAD);
        CHECK.due("18: no such part", x.ruled(0, -1), LeftOut.BAD);
        CHECK.due("18: no such rule", x.ruled(4, 6), LeftOut.UNKNOWN);
        CHECK.due("18: no such rule", x.ruled(-1, 0), LeftOut.UNKNOWN);
    }

    private static void order() {
        LeftOut x = new LeftOut();
        CHECK.due("19: no text", x.order(0), LeftOut.LATE);
        CHECK.due("19: how many letters", Check.order(x, 3, "MC"), 2);
        CHECK.due("19: the text stays", x.count(2), 2);
        CHECK.due("19: a fault", Check.order(x, 3, "WDW"), LeftOut.LATE);
        CHECK.due("19: refused changes nothing", x.ordered(3, 0), 4);
        CHECK.due("19: the others stay", x.ordered(2, 0), 0);
        CHECK.due("19: no such order", x.order(4), LeftOut.UNKNOWN);
        CHECK.due("19: no such order", x.order(-1), LeftOut.UNKNOWN);
        CHECK.due("19: all five", Check.order(x, 3, "MLCDW"), 5);
    }

    private static void ordered() {
        LeftOut x = new LeftOut();
        Check.order(x, 1, "CLMD");
        int[] want = {2, 3, 4, 1, LeftOut.NONE, LeftOut.NONE};
        for (int i = 0; i < want.length; i++) {
            CHECK.due("20: letter " + i, x.ordered(1, i), want[i]);
        }
        CHECK.due("20: none such", x.ordered(1, -1), LeftOut.NONE);
        CHECK.due("20: none such", x.ordered(1, Integer.MAX_VALUE), LeftOut.NONE);
        CHECK.due("20: no such order", x.ordered(4, -1), LeftOut.UNKNOWN);
        CHECK.due("20: no such order", x.ordered(-1, 0), LeftOut.UNKNOWN);
    }

    private static void bargain() {
        LeftOut x = new LeftOut();
        CHECK.due("21: without words", x.bargain(0, 4, 2), 0);
        CHECK.due("21: person", x.bargain(5, 4, 2), LeftOut.UNKNOWN);
        CHECK.due("21: person", x.bargain(0, -1, 2), LeftOut.UNKNOWN);
        CHECK.due("21: trade", x.bargain(0, 0, 3), LeftOut.UNKNOWN);
        CHECK.due("21: trade", x.bargain(0, 1, -1), LeftOut.UNKNOWN);
        CHECK.due("21: both are one", Check.bargain(x, 1, 1, 0, "X"), LeftOut.BAD);
        CHECK.due("21: a fault", Check.bargain(x, 0, 1, 0, "0=1X"), LeftOut.LATE);
        for (int i = 1; i < 8; i++) {
            CHECK.due("21: its number", Check.bargain(x, 0, 1, 0, "0=1XD"), i);
        }
        CHECK.due("21: the text stays", x.count(2), 5);
        CHECK.due("21: full", x.bargain(0, 1, 0), LeftOut.FULL);
        CHECK.due("21: late comes before full", Check.bargain(x, 0, 1, 0, "0"), LeftOut.LATE);
        CHECK.due("21: so many", x.count(4), 8);
        CHECK.due("21: the first stays", x.said(0, 0), 0);
        CHECK.due("21: the last has words", x.said(7, 0), 1);
        people();
    }

    private static void reword() {
        LeftOut x = new LeftOut();
        CHECK.due("22: no such bargain", x.reword(0), LeftOut.UNKNOWN);
        Check.bargain(x, 0, 1, 0, "0=12=3");
        Check.bargain(x, 0, 1, 0, "");
        x.think(0, 0, 0, 4);
        CHECK.due("22: how many gaps", Check.reword(x, 0, "1=2XL5=5"), 2);
        CHECK.due("22: the text stays", x.count(2), 8);
        CHECK.due("22: instead", x.said(0, 0), 0);
        CHECK.due("22: the new ones", x.said(0, 1), 2);
        CHECK.due("22: the other stays", x.said(1, 1), 0);
        CHECK.due("22: a fault", Check.reword(x, 0, "3=3X"), LeftOut.LATE);
        CHECK.due("22: refused changes nothing", x.said(0, 3), 0);
        CHECK.due("22: unknown comes first", x.reword(2), LeftOut.UNKNOWN);
        CHECK.due("22: letters are no gaps", Check.reword(x, 0, "XDXL"), 0);
        CHECK.due("22: all gaps", Check.reword(x, 0, "5=14=13=12=11=10=1"), 6);
        CHECK.due("22: no words", Check.reword(x, 0, ""), 0);
        CHECK.due("22: thoughts stay", x.think(0, 0, 0, 0), 4);
        crossed();
    }

    private static void people() {
        LeftOut x = new LeftOut();
        x.gap(0, 5);
        x.term(0, 1);
        x.doing(3, 2, 0, 0, 4, false);
        Check.bargain(x, 2, 3, 1, "");
        Check.bargain(x, 0, 3, 1, "");
        Check.bargain(x, 2, 0, 1, "");
        CHECK.due("21: of these two", x.answer(0, 0), Check.filling("400000"));
        CHECK.due("21: of another and the one", x.answer(1, 0), 0);
        CHECK.due("21: of the one and another", x.answer(2, 0), 0);
    }

    private static void crossed() {
        LeftOut x = new LeftOut();
        x.gap(0, 1);
        Check.rule(x, "L0=1");
        Check.bargain(x, 0, 1, 0, "XL");
        CHECK.due("22: law is crossed out", x.answer(0, 0), 0);
        Check.reword(x, 0, "XD");
        CHECK.due("22: law is not any more", x.answer(0, 0), Check.filling("100000"));
    }

    private static void said() {
        LeftOut x = new LeftOut();
        Check.bargain(x, 0, 1, 0, "5=4XD0=1");
        CHECK.due("23: said", x.said(0, 0), 1);
        CHECK.due("23: said", x.said(0, 5), 4);
        CHECK.due("23: not said", x.said(0, 3), 0);
        CHECK.due("23: no such gap", x.said(0, 6), LeftOut.UNKNOWN);
        CHECK.due("23: no such gap", x.said(0, -1), LeftOut.UNKNOWN);
        CHECK.due("23: no such bargain", x.said(1, 0), LeftOut.UNKNOWN);
        CHECK.due("23: no such bargain", x.said(-1, 0), LeftOut.UNKNOWN);
    }
}
