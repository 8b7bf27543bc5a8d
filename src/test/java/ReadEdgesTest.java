import java.util.ArrayList;
import java.util.List;

/** The edges that section 3 names: what fills a gap, the next filling, rings and rounds, reasons, what stays open. */
public final class ReadEdgesTest {
    private static final Check CHECK = new Check();

    public static void main(String[] args) {
        valuesThatAreThere();
        tradeOfARule();
        ifOfARule();
        ifOnNothing();
        ifOnItself();
        firstOfTwelve();
        behindTwelveThatDoNotFill();
        bothMustKnow();
        bothMustDoItTogether();
        eachOrderAndEachSource();
        boundAheadOfEachOrder();
        notAskedGetsNothing();
        fillingsAtTheirEdges();
        highestFirst();
        allAtOnce();
        roundsAndRings();
        fromAllOpenOn();
        eachReadsAnew();
        reasonInTheLastFilling();
        longestRings();
        sixThatTurn();
        openTurningNeeded();
        neededOneByOne();
        judgeEachFigure();
        CHECK.end("ReadEdgesTest");
    }

    private static String valueOf(LeftOut x, int gap) {
        return x.fills(0, 0, gap) + " by " + x.reason(0, 0, gap);
    }

    private static void same(String call, String got, String want) {
        CHECK.holds(call + " answered " + got + ", due is " + want, got.equals(want));
    }

    /** Of each source a value that is just there, and one that is just not. */
    private static void valuesThatAreThere() {
        for (int v = 1; v <= 5; v++) {
            for (int source = 0; source < 6; source++) {
                LeftOut x = new LeftOut();
                x.bargain(0, 1, 0);
                if (source == 1) {
                    Check.doings(x, 2, 0, 1, 2, 3, v);
                } else if (source == 2) {
                    x.tell(0, 0, true);
                    x.tell(1, 0, true);
                    Check.doings(x, 3, 2, 3, 0, 3, v);
                } else if (source > 2) {
                    Check.rule(x, "LMB".charAt(source - 3) + "3=" + v);
                } else {
                    Check.reword(x, 0, "3=" + v);
                }
                for (int k = 5; k >= 0; k--) {
                    x.gap(3, k);
                    String want = v > k ? "0 by 0" : v + " by " + (source > 2 ? 10 : source + 1);
                    same("27, 28: source " + source + " with " + v + " of " + k, valueOf(x, 3), want);
                }
            }
        }
    }

    private static void tradeOfARule() {
        for (String letter : new String[] {"L", "M", "B"}) {
            for (int trade = 0; trade < 3; trade++) {
                for (int of = -1; of < 3; of++) {
                    LeftOut x = Check.withValues(5);
                    Check.rule(x, letter + "0=5" + (of < 0 ? "" : "@" + of));
                    x.wipe();
                    x.bargain(0, 1, trade);
                    String want = of < 0 || of == trade ? "5 by 10" : "0 by 0";
                    same("27: " + letter + " of trade " + of + " in " + trade, valueOf(x, 0), want);
                }
            }
        }
    }

    private static void ifOfARule() {
        for (int on = 0; on < 6; on++) {
            for (int at = 0; at <= 5; at++) {
                LeftOut x = Check.withValues(5);
                Check.rule(x, "LMB".charAt(at % 3) + "2=4?" + on + "=" + at);
                x.wipe();
                x.bargain(0, 1, 0);
                for (int v = 0; v <= 5; v++) {
                    int want = v == at ? Check.only(2, 4) : 0;
                    CHECK.due("24: if " + on + "=" + at + ", there is " + v, x.next(0, 0, Check.only(on, v)), want);
                }
                int others = 46655 - Check.only(on, 5);
                CHECK.due("24: if " + on + "=" + at + ", others", x.next(0, 0, others), at == 0 ? Check.only(2, 4) : 0);
            }
        }
    }

    /** A gap without values is open in each filling that comes: an IF of 0 is so, any other is not. */
    private static void ifOnNothing() {
        for (int at = 0; at <= 5; at++) {
            LeftOut x = new LeftOut();
            x.gap(0, 5);
            Check.rule(x, "L0=2?1=" + at);
            Check.bargain(x, 0, 1, 0, "1=5");
            same("27: if a gap without values is " + at, valueOf(x, 0), at == 0 ? "2 by 10" : "0 by 0");
            x.gap(1, 5);
            same("27: if it has values and is " + at, valueOf(x, 0), at == 5 ? "2 by 10" : "0 by 0");
        }
    }

    private static void ifOnItself() {
        LeftOut x = Check.withValues(2);
        Check.rule(x, "L0=1?0=1");
        x.wipe();
        x.bargain(0, 1, 0);
        CHECK.due("26: it never begins", x.answer(0, 0), 0);
        CHECK.due("24: but it would stay", x.next(0, 0, Check.only(0, 1)), Check.only(0, 1));
        x.unrule(0);
        Check.rule(x, "L0=1?0=0");
        CHECK.due("25: it begins and ends", x.rounds(0, 0, true), 2);
        CHECK.due("25: from the start", x.rounds(0, 0, false), 0);
        Check.rule(x, "M0=1");
        CHECK.due("25: it begins and stays", x.rounds(0, 0, true), 1);
        CHECK.due("25: after one round", x.rounds(0, 0, false), 1);
        CHECK.due("28: what keeps it, not what began it", x.reason(0, 0, 0), 11);
    }

    /** Of twelve rules the first that fills it; the n-th, if none ahead of it does. */
    private static void firstOfTwelve() {
        for (char letter : "LMB".toCharArray()) {
            LeftOut x = Check.withValues(5);
            x.bargain(0, 1, 0);
            for (int i = 0; i < 12; i++) {
                same("27: none of " + i, valueOf(x, 5), "0 by 0");
                Check.rule(x, letter + "5=" + (1 + i % 5));
                same("27: number " + i, valueOf(x, 5), 1 + i % 5 + " by " + (10 + i));
                x.unrule(i);
                Check.rule(x, letter + "5=" + (1 + i % 5) + (i % 2 == 0 ? "@1" : "?0=1"));
            }
            x.unrule(11);
            Check.rule(x, letter + "5=3");
            same("27: the last of twelve", valueOf(x, 5), "3 by 21");
            x.unrule(0);
            same("27: the last of eleven", valueOf(x, 5), "3 by 20");
            Check.rule(x, letter + "5=2");
            same("27: the first of two", valueOf(x, 5), "3 by 20");
        }
    }

    /** Twelve rules whose IF is not so, and behind them another source. */
    private static void behindTwelveThatDoNotFill() {
        LeftOut x = allSources(6);
        for (int i = 0; i < 12; i++) {
            Check.rule(x, "L0=5?1=" + (1 + i % 5));
        }
        String[] orders = {"LW", "LDW", "LCW", "LMC"};
        String[] want = {"1 by 1", "2 by 2", "3 by 3", "3 by 3"};
        Check.reword(x, 0, "0=1");
        for (int i = 0; i < 4; i++) {
            Check.order(x, 0, orders[i]);
            same("27: by " + orders[i], valueOf(x, 0), want[i]);
        }
        x.unrule(11);
        Check.rule(x, "L0=4?1=0");
        same("27: the last of twelve", valueOf(x, 0), "4 by 21");
    }

    private static void bothMustKnow() {
        for (int told = 0; told < 4; told++) {
            for (int trade = 0; trade < 3; trade++) {
                LeftOut x = Check.withValues(5);
                Check.doings(x, 3, 2, 3, trade, 4, 5);
                x.tell(0, trade, told % 2 == 1);
                x.tell(4, trade, told > 1);
                x.tell(0, (trade + 1) % 3, true);
                x.tell(4, (trade + 1) % 3, true);
                x.bargain(0, 4, trade);
                x.bargain(4, 0, (trade + 1) % 3);
                x.bargain(3, 2, trade);
                same("27: told " + told + " of both", valueOf(x, 4), told == 3 ? "5 by 3" : "0 by 0");
                CHECK.due("27: in another trade there is none", x.fills(1, 0, 4), 0);
                CHECK.due("27: they know it by doings", x.fills(2, 0, 4), 5);
            }
        }
    }

    private static void bothMustDoItTogether() {
        LeftOut x = Check.withValues(5);
        x.term(0, 1);
        Check.doings(x, 1, 0, 4, 2, 1, 3);
        x.bargain(4, 0, 1);
        x.bargain(0, 1, 2);
        same("27: before, the other way round, in another trade", valueOf(x, 1), "3 by 2");
        CHECK.due("27: not of another two", x.fills(1, 0, 1), 0);
        x.term(0, 2);
        same("27: not twice", valueOf(x, 1), "0 by 0");
    }

    /** Gap 0 may get 1 by words, and by those sources that are told as bits 2 by D, 3 by C, 4 by L and 5 by M. */
    private static LeftOut allSources(int sources) {
        LeftOut x = Check.withValues(5);
        Check.doings(x, (sources & 2) == 0 ? 0 : 2, 0, 1, 0, 0, 2);
        Check.doings(x, (sources & 4) == 0 ? 0 : 6, 2, 3, 0, 0, 3);
        x.tell(0, 0, true);
        x.tell(1, 0, true);
        if ((sources & 16) != 0) {
            Check.rule(x, "M0=5");
        }
        if ((sources & 8) != 0) {
            Check.rule(x, "L0=4");
        }
        x.wipe();
        x.bargain(0, 1, 0);
        return x;
    }

    private static List<String> orders(String head) {
        List<String> orders = new ArrayList<>();
        for (char letter : "WDCLM".toCharArray()) {
            if (head.indexOf(letter) < 0) {
                orders.add(head + letter);
                orders.addAll(orders(head + letter));
            }
        }
        return orders;
    }

    private static void eachOrderAndEachSource() {
        for (String letters : orders("")) {
            for (int sources = 0; sources < 32; sources += 2) {
                LeftOut x = allSources(sources);
                Check.order(x, 0, letters);
                for (int crossed = 0; crossed < 16; crossed++) {
                    eachX(x, letters, sources, crossed);
                }
            }
        }
    }

    /** The first letter that fills gap 0 is the first one that is not crossed and whose source is there. */
    private static void eachX(LeftOut x, String letters, int sources, int crossed) {
        StringBuilder words = new StringBuilder();
        for (int i = 1; i <= 3; i++) {
            words.append((crossed >> i & 1) == 1 ? "X" + "WDCL".charAt(i) : "");
        }
        words.append((crossed & 1) == 0 ? "0=1" : "");
        int left = (sources | 1) & ~crossed;
        String want = "0 by 0";
        for (int i = letters.length() - 1; i >= 0; i--) {
            int letter = "WDCLM".indexOf(letters.charAt(i));
            int rule = letter == 3 && (sources & 16) != 0 ? 11 : 10;
            if ((left >> letter & 1) == 1) {
                want = letter + 1 + " by " + (letter < 3 ? letter + 1 : rule);
            }
        }
        Check.reword(x, 0, words.toString());
        same("27, 28: " + letters + " with " + words + " of " + sources, valueOf(x, 0), want);
    }

    private static void boundAheadOfEachOrder() {
        LeftOut x = allSources(30);
        Check.rule(x, "B0=2?1=5");
        Check.rule(x, "B0=3@0");
        for (String letters : new String[] {"W", "D", "C", "L", "M", "WDCLM"}) {
            Check.order(x, 0, letters);
            for (String words : new String[] {"", "0=1", "0=1XDXCXL", "XL"}) {
                Check.reword(x, 0, words);
                same("27: bound, by " + letters + " with " + words, valueOf(x, 0), "3 by 13");
            }
        }
        Check.order(x, 0, "W");
        Check.reword(x, 0, "1=5");
        same("27: the first bound rule that fills it", valueOf(x, 0), "2 by 12");
        x.gap(0, 2);
        Check.reword(x, 0, "0=1");
        same("27: bound to what is not there", valueOf(x, 0), "1 by 1");
    }

    private static void notAskedGetsNothing() {
        LeftOut x = allSources(30);
        Check.rule(x, "B0=3");
        Check.reword(x, 0, "0=1");
        x.hang(0, 1, 1);
        same("27: not asked, though bound", valueOf(x, 0), "0 by 0");
        CHECK.due("24: not asked", x.next(0, 0, 46655), 0);
        CHECK.due("24: asked", x.next(0, 0, Check.only(1, 1)), Check.only(0, 3));
        CHECK.due("29: not asked is not open", x.open(0, 0, false) & 1, 0);
        x.gap(0, 0);
        CHECK.due("24: asked, but no gap", x.next(0, 0, Check.only(1, 1)), 0);
    }

    private static void fillingsAtTheirEdges() {
        LeftOut x = Check.withValues(5);
        Check.bargain(x, 0, 1, 0, "5=1");
        for (int filling : new int[] {0, 1, 5, 6, 7775, 7776, 46654, 46655}) {
            CHECK.due("24: " + filling, x.next(0, 0, filling), 1);
            CHECK.due("31: " + filling, x.judge(0, 0, filling) >= 0 ? 1 : 0, filling == 1 ? 0 : 1);
        }
        for (int filling : new int[] {-1, 46656, 46657, LeftOut.NONE, Integer.MIN_VALUE, Integer.MAX_VALUE}) {
            CHECK.due("24: " + filling, x.next(0, 0, filling), LeftOut.BAD);
            CHECK.due("31: " + filling, x.judge(0, 0, filling), LeftOut.BAD);
            CHECK.due("24: " + filling + " of no bargain", x.next(1, 0, filling), LeftOut.UNKNOWN);
            CHECK.due("31: " + filling + " by no order", x.judge(0, 4, filling), LeftOut.UNKNOWN);
        }
    }

    private static void highestFirst() {
        int[] places = {7776, 1296, 216, 36, 6, 1};
        for (int gap = 0; gap < 6; gap++) {
            for (int v = 1; v <= 5; v++) {
                LeftOut x = Check.withValues(5);
                Check.bargain(x, 0, 1, 0, gap + "=" + v);
                CHECK.due("26: " + gap + "=" + v, x.answer(0, 0), v * places[gap]);
                CHECK.due("24: " + gap + "=" + v, x.next(0, 0, 0), v * places[gap]);
                for (int other = 0; other < 6; other++) {
                    CHECK.due("27: " + gap + "=" + v + " at " + other, x.fills(0, 0, other), other == gap ? v : 0);
                }
                CHECK.due("29: " + gap + " is not open", x.open(0, 0, false), 63 - (1 << gap));
            }
        }
    }

    /** Each gap becomes what its neighbour was: the values go round as they are. */
    private static void allAtOnce() {
        LeftOut x = Check.withValues(1);
        for (int gap = 0; gap < 6; gap++) {
            Check.rule(x, "L" + gap + "=1?" + (gap + 5) % 6 + "=1");
        }
        x.wipe();
        x.bargain(0, 1, 0);
        for (int set = 0; set < 64; set++) {
            int before = Integer.parseInt(Integer.toBinaryString(set), 6);
            int after = Integer.parseInt(Integer.toBinaryString(set >> 1 | set % 2 * 32), 6);
            CHECK.due("24: from " + Integer.toBinaryString(set), x.next(0, 0, before), after);
        }
    }

    /** Gap 0 goes 0, 1, .. to a highest value and from there back to another one, over and over. */
    private static LeftOut going(int highest, int back) {
        LeftOut x = Check.withValues(5);
        for (int v = 0; v < highest; v++) {
            Check.rule(x, "L0=" + (v + 1) + "?0=" + v);
        }
        if (back > 0) {
            Check.rule(x, "L0=" + back + "?0=" + highest);
        }
        x.wipe();
        x.bargain(0, 1, 0);
        return x;
    }

    private static void roundsAndRings() {
        for (int highest = 0; highest <= 5; highest++) {
            for (int back = 0; back <= highest; back++) {
                LeftOut x = going(highest, back);
                String title = "0 .. " + highest + " and back to " + back;
                boolean stays = highest == back;
                CHECK.due("25: rounds of " + title, x.rounds(0, 0, false), back);
                CHECK.due("25: ring of " + title, x.rounds(0, 0, true), highest - back + 1);
                CHECK.due("26: " + title, x.answer(0, 0), stays ? Check.only(0, highest) : 0);
                CHECK.due("27: " + title, x.fills(0, 0, 0), stays ? highest : 0);
                CHECK.due("28: " + title, x.reason(0, 0, 0), !stays ? 4 : highest == 0 ? 0 : 10 + highest);
                CHECK.due("29: turns, " + title, x.open(0, 0, true), stays ? 0 : 1);
                CHECK.due("29: open, " + title, x.open(0, 0, false), stays && highest > 0 ? 62 : 63);
                x.need(0, true);
                CHECK.due("30: " + title, x.holds(0, 0), stays && highest > 0 ? 1 : 0);
            }
        }
    }

    /** Another filling to begin with would stay otherwise, or go about in another ring. */
    private static void fromAllOpenOn() {
        for (int gap = 0; gap < 6; gap++) {
            int other = (gap + 1) % 6;
            LeftOut x = Check.withValues(5);
            Check.rule(x, "B" + other + "=2?" + gap + "=0");
            for (int v = 1; v <= 5; v++) {
                Check.rule(x, "L" + gap + "=" + v + "?" + gap + "=" + v);
            }
            Check.rule(x, "L" + other + "=1?" + other + "=0");
            x.wipe();
            x.bargain(0, 1, 0);
            CHECK.due("24: another one stays", x.next(0, 0, Check.only(gap, 5)), Check.only(gap, 5) + Check.only(other, 1));
            CHECK.due("26: from all open", x.answer(0, 0), Check.only(other, 2));
            CHECK.due("25: from all open", x.rounds(0, 0, true), 1);
            CHECK.due("25: from all open", x.rounds(0, 0, false), 1);
            CHECK.due("29: from all open", x.open(0, 0, true), 0);
        }
    }

    /** Two bargains by two orders: each call tells of its own, whichever was read before it. */
    private static void eachReadsAnew() {
        LeftOut x = Check.withValues(5);
        Check.rule(x, "L1=1");
        Check.rule(x, "M2=2?2=0");
        Check.bargain(x, 0, 1, 0, "0=3");
        Check.bargain(x, 0, 1, 0, "3=4XL");
        Check.order(x, 1, "L");
        x.need(2, true);
        x.think(0, 0, 1, 2);
        x.think(1, 0, 1, 2);
        x.think(1, 0, 3, 4);
        int[][] answers = {{Check.filling("310000"), Check.filling("010000")}, {Check.filling("000400"), 0}};
        int[][][] reasons = {{{1, 10, 4, 0}, {0, 10, 0, 0}}, {{0, 0, 4, 1}, {0, 0, 0, 0}}};
        int[][] turns = {{4, 0}, {4, 0}};
        int[][] open = {{4 + 8 + 16 + 32, 63 - 2}, {63 - 8, 63}};
        int[][] far = {{2, 2}, {2, 2 + 8}};
        for (int i = 0; i < 4; i++) {
            for (int j = 0; j < 4; j++) {
                int b = i / 2;
                int o = i % 2;
                String title = " of " + b + " by " + o + ", behind " + j / 2 + " by " + j % 2;
                x.answer(j / 2, j % 2);
                CHECK.due("28:" + title, x.reason(b, o, j), reasons[b][o][j]);
                x.answer(j / 2, j % 2);
                CHECK.due("26:" + title, x.answer(b, o), answers[b][o]);
                x.answer(j / 2, j % 2);
                CHECK.due("27:" + title, x.fills(b, o, j), answers[b][o] / Check.only(j, 1) % 6);
                x.answer(j / 2, j % 2);
                CHECK.due("29:" + title, x.open(b, o, true), turns[b][o]);
                x.answer(j / 2, j % 2);
                CHECK.due("29:" + title, x.open(b, o, false), open[b][o]);
                x.answer(j / 2, j % 2);
                CHECK.due("30:" + title, x.holds(b, o), 0);
                x.answer(j / 2, j % 2);
                CHECK.due("25:" + title, x.rounds(b, o, true), o == 0 ? 2 : 1);
                x.answer(j / 2, j % 2);
                CHECK.due("25:" + title, x.rounds(b, o, false), i < 3 ? 1 : 0);
                x.answer(j / 2, j % 2);
                CHECK.due("31:" + title, x.judge(b, o, answers[b][o]), LeftOut.NONE);
                x.answer(j / 2, j % 2);
                CHECK.due("37:" + title, x.far(b, o, 0), far[b][o]);
                x.answer(j / 2, j % 2);
                CHECK.due("24:" + title, x.next(b, o, Check.only(2, 1)), answers[b][o]);
            }
        }
    }

    /** Gap 1 always gets 1, each time by the law of what gap 0 was: the last filling of the ring tells by which. */
    private static void reasonInTheLastFilling() {
        for (int highest = 1; highest <= 5; highest++) {
            for (int back = 0; back <= highest; back++) {
                LeftOut x = going(highest, back);
                int first = x.count(3);
                for (int v = 0; v <= highest; v++) {
                    Check.rule(x, "L1=1?0=" + v);
                }
                int last = back == 0 ? 0 : highest;
                String title = "0 .. " + highest + " and back to " + back;
                CHECK.due("26: it stays, " + title, x.fills(0, 0, 1), 1);
                CHECK.due("28: the last filling of the ring, " + title, x.reason(0, 0, 1), 10 + first + last);
                CHECK.due("25: rounds, " + title, x.rounds(0, 0, false), Math.max(1, back));
            }
        }
    }

    /** Rings of 2 to 5 side by side, that are all together as long as their least common multiple. */
    private static void longestRings() {
        int[][] rings = {{5, 4, 3, 60}, {4, 3, 2, 12}, {5, 3, 2, 30}, {5, 5, 4, 20}, {6, 5, 1, 30}, {6, 4, 5, 60}};
        for (int[] ring : rings) {
            LeftOut x = Check.withValues(5);
            for (int gap = 0; gap < 3; gap++) {
                for (int v = 0; v + 1 < ring[gap]; v++) {
                    Check.rule(x, "L" + gap + "=" + (v + 1) + "?" + gap + "=" + v);
                }
            }
            Check.bargain(x, 0, 1, 0, "3=1");
            CHECK.due("25: rings of " + ring[0] + ", " + ring[1] + ", " + ring[2], x.rounds(0, 0, true), ring[3]);
            CHECK.due("25: after the first word", x.rounds(0, 0, false), 1);
            CHECK.due("26: what turns is 0", x.answer(0, 0), Check.only(3, 1));
        }
    }

    private static void sixThatTurn() {
        LeftOut x = Check.withValues(5);
        for (int gap = 0; gap < 6; gap++) {
            Check.rule(x, "L" + gap + "=5?" + gap + "=0");
        }
        x.wipe();
        x.bargain(0, 1, 0);
        CHECK.due("29: all turn", x.open(0, 0, true), 63);
        CHECK.due("29: all are open", x.open(0, 0, false), 63);
        CHECK.due("25: two by two", x.rounds(0, 0, true), 2);
        CHECK.due("26: nothing stays", x.answer(0, 0), 0);
        CHECK.due("30: none is needed", x.holds(0, 0), 1);
        CHECK.due("31: as nothing", x.judge(0, 0, 0), LeftOut.NONE);
        for (int gap = 0; gap < 6; gap++) {
            CHECK.due("28: it turns", x.reason(0, 0, gap), 4);
            x.hang(gap, (gap + 1) % 6, 5);
        }
        CHECK.due("29: none is asked any more", x.open(0, 0, true) + x.open(0, 0, false), 0);
    }

    /** Gap 0 turns, 1 is filled, 2 stays open, 3 is no gap, 4 is not asked, 5 hangs on 0 and turns with it. */
    private static void openTurningNeeded() {
        LeftOut x = Check.withValues(5);
        x.gap(3, 0);
        x.hang(4, 1, 2);
        x.hang(5, 0, 1);
        Check.rule(x, "L0=1?0=0");
        Check.bargain(x, 0, 1, 0, "1=13=14=15=1");
        CHECK.due("29: turn", x.open(0, 0, true), 1 | 32);
        CHECK.due("29: still open, 5 is not asked in the answer", x.open(0, 0, false), 1 | 4);
        int[] reasons = {4, 1, 0, 0, 0, 4};
        for (int gap = 0; gap < 6; gap++) {
            CHECK.due("28: of " + gap, x.reason(0, 0, gap), reasons[gap]);
        }
        for (int set = 0; set < 64; set++) {
            for (int gap = 0; gap < 6; gap++) {
                x.need(gap, (set >> gap & 1) == 1);
            }
            CHECK.due("30: needed are " + set, x.holds(0, 0), (set & (1 | 4 | 32)) == 0 ? 1 : 0);
        }
    }

    private static void neededOneByOne() {
        LeftOut x = Check.withValues(1);
        Check.bargain(x, 0, 1, 0, "");
        for (int gap = 0; gap < 6; gap++) {
            x.need(gap, true);
        }
        StringBuilder words = new StringBuilder();
        for (int gap = 0; gap < 6; gap++) {
            CHECK.due("30: " + (6 - gap) + " are missed", x.holds(0, 0), 0);
            words.append(gap).append("=1");
            Check.reword(x, 0, words.toString());
        }
        CHECK.due("30: none is missed", x.holds(0, 0), 1);
        x.gap(5, 0);
        Check.reword(x, 0, "0=11=12=13=14=1");
        CHECK.due("30: what is no gap is not missed", x.holds(0, 0), 1);
    }

    private static void judgeEachFigure() {
        LeftOut x = Check.withValues(3);
        Check.bargain(x, 0, 1, 0, "0=11=23=34=1");
        int answer = Check.filling("120310");
        CHECK.due("31: as it is", x.judge(0, 0, answer), LeftOut.NONE);
        for (int gap = 0; gap < 6; gap++) {
            int own = x.fills(0, 0, gap);
            for (int v = 0; v <= 5; v++) {
                int row = answer + Check.only(gap, v) - Check.only(gap, own);
                CHECK.due("31: " + v + " at " + gap, x.judge(0, 0, row), v == own ? LeftOut.NONE : gap);
            }
            for (int later = gap + 1; later < 6; later++) {
                int step = x.fills(0, 0, later) == 0 ? 1 : -1;
                int back = own == 0 ? 1 : -1;
                int row = answer + back * Check.only(gap, 1) + step * Check.only(later, 1);
                CHECK.due("31: the first of " + gap + " and " + later, x.judge(0, 0, row), gap);
            }
        }
    }
}
