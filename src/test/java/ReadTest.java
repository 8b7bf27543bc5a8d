/** Promises 24 to 31: how a bargain is read by an order. */
public final class ReadTest {
    private static final Check CHECK = new Check();

    public static void main(String[] args) {
        sourcesInOrder();
        boundAheadOfWords();
        crossedLetters();
        rulesThatFit();
        valuesThatAreNotThere();
        custom();
        next();
        roundsToAnEnd();
        ring();
        turningAndStaying();
        longRing();
        lastFillingOfTheRing();
        openAndHolds();
        judge();
        refusals();
        CHECK.end("ReadTest");
    }

    /** All gaps have five values. */
    private static LeftOut five() {
        LeftOut x = new LeftOut();
        for (int gap = 0; gap < 6; gap++) {
            x.gap(gap, 5);
        }
        return x;
    }

    /** A bargain of which each source fills gap 0 with another value: W 1, D 2, C 3, L 4, M 5. */
    private static LeftOut allSources() {
        LeftOut x = five();
        x.doing(0, 1, 0, 0, 2, false);
        x.doing(0, 1, 0, 0, 2, false);
        for (int i = 0; i < 4; i++) {
            x.doing(2, 3, 0, 0, 3, false);
        }
        Check.rule(x, "M0=5");
        Check.rule(x, "L0=4");
        Check.bargain(x, 0, 1, 0, "0=1");
        return x;
    }

    private static void sourcesInOrder() {
        LeftOut x = allSources();
        String letters = "WDCLM";
        int[] reasons = {1, 2, 3, 11, 10};
        for (int i = 0; i < 5; i++) {
            for (int j = 0; j < 5; j++) {
                String order = i == j ? letters.substring(i, i + 1) : "" + letters.charAt(i) + letters.charAt(j);
                Check.order(x, 1, order);
                CHECK.due("27: by " + order, x.fills(0, 1, 0), i + 1);
                CHECK.due("28: by " + order, x.reason(0, 1, 0), reasons[i]);
                CHECK.due("26: by " + order, x.answer(0, 1), (i + 1) * 7776);
            }
        }
        Check.reword(x, 0, "");
        CHECK.due("27: no words", x.fills(0, 0, 0), 2);
        x.doing(0, 1, 0, 0, 3, false);
        CHECK.due("27: not as before", x.fills(0, 0, 0), 3);
        x.doing(0, 1, 0, 0, 2, false);
        x.doing(0, 1, 0, 0, 4, false);
        CHECK.due("27: no custom", x.fills(0, 0, 0), 4);
        CHECK.due("28: by law", x.reason(0, 0, 0), 11);
        x.unrule(1);
        CHECK.due("27: no law", x.fills(0, 0, 0), 5);
        x.unrule(0);
        CHECK.due("27: nothing", x.fills(0, 0, 0), 0);
        CHECK.due("28: by nothing", x.reason(0, 0, 0), 0);
    }

    private static void boundAheadOfWords() {
        LeftOut x = allSources();
        Check.rule(x, "B0=5?1=1");
        Check.rule(x, "B0=3");
        Check.rule(x, "B0=4");
        CHECK.due("24: the first that fills it", x.fills(0, 0, 0), 3);
        CHECK.due("28: a bound rule", x.reason(0, 0, 0), 13);
        Check.reword(x, 0, "0=11=1XL");
        CHECK.due("24: no X is in its way", x.fills(0, 0, 0), 5);
        CHECK.due("28: a bound rule", x.reason(0, 0, 0), 12);
        Check.order(x, 0, "W");
        CHECK.due("24: nor an order", x.fills(0, 0, 0), 5);
    }

    private static void crossedLetters() {
        LeftOut x = allSources();
        String[] sayings = {"", "XD", "XDXC", "XDXCXL", "XC", "XL"};
        int[] want = {2, 3, 4, 5, 2, 2};
        for (int i = 0; i < sayings.length; i++) {
            Check.reword(x, 0, sayings[i]);
            CHECK.due("24: with " + sayings[i], x.fills(0, 0, 0), want[i]);
        }
    }

    private static void rulesThatFit() {
        LeftOut x = five();
        Check.rule(x, "L0=1@1");
        Check.rule(x, "L0=2?5=3");
        Check.rule(x, "L0=3?5=0@0");
        Check.rule(x, "L0=4");
        Check.bargain(x, 0, 1, 0, "");
        Check.bargain(x, 0, 1, 1, "5=3");
        Check.bargain(x, 0, 1, 2, "5=3");
        Check.bargain(x, 0, 1, 2, "5=4");
        int[] values = {3, 1, 2, 4};
        int[] reasons = {12, 10, 11, 13};
        for (int bargain = 0; bargain < 4; bargain++) {
            CHECK.due("27: of its trade and if", x.fills(bargain, 0, 0), values[bargain]);
            CHECK.due("28: of its trade and if", x.reason(bargain, 0, 0), reasons[bargain]);
        }
    }

    private static void valuesThatAreNotThere() {
        LeftOut x = allSources();
        int[] want = {0, 1, 1, 1, 1, 1};
        for (int k = 0; k < 6; k++) {
            x.gap(0, k);
            CHECK.due("27: words with " + k + " values", x.fills(0, 0, 0), want[k]);
        }
        Check.order(x, 0, "MLCDW");
        for (int k = 0; k < 6; k++) {
            x.gap(0, k);
            CHECK.due("27: all sources with " + k + " values", x.fills(0, 0, 0), k);
        }
        Check.rule(x, "B0=5");
        x.gap(0, 4);
        CHECK.due("27: bound to what is not there", x.fills(0, 0, 0), 4);
        x.gap(0, 0);
        x.hang(0, 1, 1);
        Check.reword(x, 0, "1=1");
        CHECK.due("29: no gap, though it hangs on what is so", x.open(0, 0, false) & 1, 0);
    }

    private static void custom() {
        LeftOut x = five();
        for (int i = 0; i < 3; i++) {
            x.doing(2, 3, 1, 0, 4, false);
        }
        Check.bargain(x, 0, 1, 1, "");
        Check.bargain(x, 2, 3, 0, "");
        Check.order(x, 0, "C");
        CHECK.due("27: none knows it", x.fills(0, 0, 0), 0);
        x.tell(0, 1, true);
        CHECK.due("27: one knows it", x.fills(0, 0, 0), 0);
        x.tell(1, 1, true);
        CHECK.due("27: both know it", x.fills(0, 0, 0), 4);
        x.tell(0, 1, false);
        CHECK.due("27: the other knows it", x.fills(0, 0, 0), 0);
        x.doing(4, 0, 1, 5, 1, false);
        CHECK.due("27: by a doing", x.fills(0, 0, 0), 4);
        CHECK.due("27: of another trade", x.fills(1, 0, 0), 0);
        x.term(1, 4);
        CHECK.due("27: fewer than the least", x.fills(0, 0, 0), 0);
    }

    private static void next() {
        LeftOut x = five();
        x.gap(1, 2);
        Check.rule(x, "L0=2?1=1");
        Check.rule(x, "L1=1?0=0");
        Check.rule(x, "L1=2?0=2");
        x.hang(2, 0, 5);
        Check.bargain(x, 0, 1, 0, "2=34=1");
        CHECK.due("24: from all open", x.next(0, 0, 0), Check.filling("010010"));
        CHECK.due("24: all at once", x.next(0, 0, Check.filling("010010")), Check.filling("210010"));
        CHECK.due("24: all at once", x.next(0, 0, Check.filling("210010")), Check.filling("220010"));
        CHECK.due("24: the gap that hangs", x.next(0, 0, Check.filling("500000")), Check.filling("003010"));
        CHECK.due("24: the highest filling", x.next(0, 0, 46655), Check.filling("003010"));
        CHECK.due("24: a figure above k", x.next(0, 0, Check.filling("230000")), Check.filling("020010"));
        CHECK.due("24: too high", x.next(0, 0, 46656), LeftOut.BAD);
        CHECK.due("24: too low", x.next(0, 0, -1), LeftOut.BAD);
        CHECK.due("24: no such bargain", x.next(1, 0, -1), LeftOut.UNKNOWN);
        CHECK.due("24: no such bargain", x.next(-1, 0, 0), LeftOut.UNKNOWN);
        CHECK.due("24: no such order", x.next(0, 4, 46656), LeftOut.UNKNOWN);
        CHECK.due("24: no such order", x.next(0, -1, 0), LeftOut.UNKNOWN);
    }

    private static void roundsToAnEnd() {
        LeftOut x = five();
        Check.bargain(x, 0, 1, 0, "");
        CHECK.due("25: nothing to fill", x.rounds(0, 0, false), 0);
        CHECK.due("25: it stays", x.rounds(0, 0, true), 1);
        Check.reword(x, 0, "0=1");
        CHECK.due("25: one round", x.rounds(0, 0, false), 1);
        Check.rule(x, "M1=2?0=1");
        Check.rule(x, "M2=3?1=2");
        Check.rule(x, "M3=4?2=3");
        Check.rule(x, "M4=5?3=4");
        Check.rule(x, "M5=1?4=5");
        CHECK.due("25: six rounds", x.rounds(0, 0, false), 6);
        CHECK.due("25: it stays", x.rounds(0, 0, true), 1);
        CHECK.due("26: a chain", x.answer(0, 0), Check.filling("123451"));
        CHECK.due("28: the last of the chain", x.reason(0, 0, 5), 14);
    }

    /** Gap 0 goes 0, 1, 2, 3, 1, 2, 3, .. */
    private static void ring() {
        LeftOut x = five();
        Check.rule(x, "L0=1?0=0");
        Check.rule(x, "L0=2?0=1");
        Check.rule(x, "L0=3?0=2");
        Check.rule(x, "L0=1?0=3");
        Check.bargain(x, 0, 1, 0, "1=4");
        CHECK.due("25: till the first of the ring", x.rounds(0, 0, false), 1);
        CHECK.due("25: the ring", x.rounds(0, 0, true), 3);
        CHECK.due("26: what turns is 0", x.answer(0, 0), Check.filling("040000"));
        CHECK.due("27: what turns is 0", x.fills(0, 0, 0), 0);
        CHECK.due("27: what stays", x.fills(0, 0, 1), 4);
        CHECK.due("28: it turns", x.reason(0, 0, 0), 4);
        CHECK.due("28: it stays", x.reason(0, 0, 1), 1);
        CHECK.due("29: it turns", x.open(0, 0, true), 1);
    }

    /** What hangs on a turning gap turns too, if something fills it. */
    private static void turningAndStaying() {
        LeftOut x = five();
        Check.rule(x, "L0=1?0=0");
        Check.bargain(x, 0, 1, 0, "1=42=2");
        x.hang(1, 0, 1);
        x.hang(3, 0, 1);
        CHECK.due("25: from the first on", x.rounds(0, 0, false), 1);
        CHECK.due("25: two by two", x.rounds(0, 0, true), 2);
        CHECK.due("26: what stays", x.answer(0, 0), Check.filling("002000"));
        CHECK.due("29: what turns", x.open(0, 0, true), 3);
        CHECK.due("29: what hangs on an open one is not asked", x.open(0, 0, false), 1 | 16 | 32);
        x.need(1, true);
        CHECK.due("30: needed, and turns", x.holds(0, 0), 0);
        x.need(1, false);
        x.need(3, true);
        CHECK.due("30: needed, but not asked", x.holds(0, 0), 1);
    }

    /** Three gaps that go about in rings of 5, 4 and 3: 60 fillings. */
    private static void longRing() {
        LeftOut x = five();
        String[] rules = {"0=1?0=0", "0=2?0=1", "0=3?0=2", "0=4?0=3", "1=1?1=0", "1=2?1=1", "1=3?1=2", "2=1?2=0", "2=2?2=1"};
        for (String rule : rules) {
            Check.rule(x, "L" + rule);
        }
        Check.bargain(x, 0, 1, 0, "");
        CHECK.due("25: a long ring", x.rounds(0, 0, true), 60);
        CHECK.due("25: from the start", x.rounds(0, 0, false), 0);
        CHECK.due("29: three turn", x.open(0, 0, true), 7);
        CHECK.due("29: all are open", x.open(0, 0, false), 63);
    }

    /** Gap 1 always gets 1, by one law or the other as gap 0 goes 0, 1, 0, 1, ..: the last filling has 0 at 1. */
    private static void lastFillingOfTheRing() {
        LeftOut x = five();
        Check.rule(x, "L0=1?0=0");
        Check.rule(x, "L1=1?0=0");
        Check.rule(x, "L1=1?0=1");
        Check.bargain(x, 0, 1, 0, "");
        CHECK.due("25: the ring is 11, 01", x.rounds(0, 0, false), 1);
        CHECK.due("25: the ring", x.rounds(0, 0, true), 2);
        CHECK.due("26: 1 stays", x.answer(0, 0), Check.filling("010000"));
        CHECK.due("28: by what fills it in the last filling", x.reason(0, 0, 1), 11);
    }

    private static void openAndHolds() {
        LeftOut x = new LeftOut();
        x.gap(0, 1);
        x.gap(2, 2);
        x.gap(5, 3);
        Check.bargain(x, 0, 1, 0, "2=1");
        CHECK.due("29: asked and not filled", x.open(0, 0, false), 1 | 32);
        CHECK.due("29: nothing turns", x.open(0, 0, true), 0);
        CHECK.due("30: none is needed", x.holds(0, 0), 1);
        x.need(2, true);
        CHECK.due("30: needed and filled", x.holds(0, 0), 1);
        x.need(1, true);
        CHECK.due("30: needed, but there is no such gap", x.holds(0, 0), 1);
        x.need(5, true);
        CHECK.due("30: needed and open", x.holds(0, 0), 0);
        x.hang(5, 2, 2);
        CHECK.due("30: needed, but not asked", x.holds(0, 0), 1);
        CHECK.due("29: not asked", x.open(0, 0, false), 1);
        Check.reword(x, 0, "2=2");
        CHECK.due("30: asked again", x.holds(0, 0), 0);
        Check.reword(x, 0, "2=25=3");
        CHECK.due("30: filled", x.holds(0, 0), 1);
    }

    private static void judge() {
        LeftOut x = five();
        Check.bargain(x, 0, 1, 0, "0=12=3");
        int answer = Check.filling("103000");
        CHECK.due("26: the answer", x.answer(0, 0), answer);
        CHECK.due("31: as it is", x.judge(0, 0, answer), LeftOut.NONE);
        int place = 1;
        for (int gap = 5; gap >= 0; gap--) {
            CHECK.due("31: otherwise at " + gap, x.judge(0, 0, answer + place), gap);
            place *= 6;
        }
        Check.bargain(x, 0, 1, 0, "");
        CHECK.due("26: another bargain", x.answer(1, 0), 0);
        CHECK.due("31: of the one asked for", x.judge(0, 0, answer), LeftOut.NONE);
        CHECK.due("26: another bargain", x.answer(1, 0), 0);
        CHECK.due("28: of the one asked for", x.reason(0, 0, 0), 1);
        CHECK.due("31: the first of two", x.judge(0, 0, Check.filling("113001")), 1);
        CHECK.due("31: too high", x.judge(0, 0, 46656), LeftOut.BAD);
        CHECK.due("31: the highest", x.judge(0, 0, 46655), 0);
        CHECK.due("31: too low", x.judge(0, 0, -1), LeftOut.BAD);
        CHECK.due("31: unknown comes first", x.judge(2, 0, -1), LeftOut.UNKNOWN);
        CHECK.due("31: unknown comes first", x.judge(0, 4, -1), LeftOut.UNKNOWN);
    }

    private static void refusals() {
        LeftOut x = five();
        Check.bargain(x, 0, 1, 0, "");
        int[][] unknown = {{1, 0}, {-1, 0}, {0, 4}, {0, -1}};
        for (int[] u : unknown) {
            CHECK.due("25: unknown", x.rounds(u[0], u[1], true), LeftOut.UNKNOWN);
            CHECK.due("26: unknown", x.answer(u[0], u[1]), LeftOut.UNKNOWN);
            CHECK.due("27: unknown", x.fills(u[0], u[1], 0), LeftOut.UNKNOWN);
            CHECK.due("28: unknown", x.reason(u[0], u[1], 0), LeftOut.UNKNOWN);
            CHECK.due("29: unknown", x.open(u[0], u[1], false), LeftOut.UNKNOWN);
            CHECK.due("30: unknown", x.holds(u[0], u[1]), LeftOut.UNKNOWN);
            CHECK.due("31: unknown", x.judge(u[0], u[1], 0), LeftOut.UNKNOWN);
        }
        CHECK.due("27: gap", x.fills(0, 0, 6), LeftOut.UNKNOWN);
        CHECK.due("27: gap", x.fills(0, 0, -1), LeftOut.UNKNOWN);
        CHECK.due("28: gap", x.reason(0, 0, 6), LeftOut.UNKNOWN);
        CHECK.due("28: gap", x.reason(0, 0, -1), LeftOut.UNKNOWN);
    }
}
