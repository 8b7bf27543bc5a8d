/**
 * Gaps without values (sections 1 and 3, promises 2, 40 and 44): "there is no such gap", yet each call may name
 * one; it is never asked, and what is told of it counts from the time on when it has values.
 */
public final class NoValuesTest {
    private static final Check CHECK = new Check();

    public static void main(String[] args) {
        for (int gap = 0; gap < 6; gap++) {
            namedByEachCall(gap, new LeftOut());
            LeftOut x = new LeftOut();
            x.gap(gap, 5);
            x.gap(gap, 0);
            namedByEachCall(gap, x);
            countsFromThenOn(gap);
            for (int on = 0; on < 6; on++) {
                if (on != gap) {
                    neverAsked(gap, on);
                    neverMet(gap, on);
                }
            }
        }
        goneAndBack();
        CHECK.end("NoValuesTest");
    }

    private static void namedByEachCall(int gap, LeftOut x) {
        int other = (gap + 1) % 6;
        String at = " of gap " + gap;
        CHECK.due("3: need" + at, x.need(gap, true), 0);
        CHECK.due("4: hang" + at, x.hang(gap, other, 5), LeftOut.NONE);
        CHECK.due("4: hang on it" + at, x.hang(other, gap, 5), LeftOut.NONE);
        CHECK.due("4: hang on none" + at, x.hang(gap, LeftOut.NONE, 0), other);
        CHECK.due("5: doing" + at, x.doing(0, 1, 2, gap, 5, false), 0);
        CHECK.due("5: doing" + at, x.doing(1, 0, 2, gap, 5, false), 1);
        CHECK.due("10: before" + at, x.before(0, 1, gap), 5);
        CHECK.due("12: lacks" + at, x.lacks(2, gap, 5), 1);
        CHECK.due("5: doing" + at, x.doing(0, 1, 2, gap, 5, false), 2);
        CHECK.due("11: custom" + at, x.custom(2, gap), 5);
        CHECK.due("16: a law" + at, Check.rule(x, "L" + gap + "=5?" + gap + "=0"), 0);
        CHECK.due("18: its gap" + at, x.ruled(0, 1), gap);
        CHECK.due("18: the gap of its IF" + at, x.ruled(0, 3), gap);
        CHECK.due("21: sayings" + at, Check.bargain(x, 0, 1, 2, gap + "=5"), 0);
        CHECK.due("22: sayings" + at, x.reword(0), 1);
        CHECK.due("23: said" + at, x.said(0, gap), 5);
        CHECK.due("24: next" + at, x.next(0, 0, Check.only(gap, 5)), 0);
        CHECK.due("26: answer" + at, x.answer(0, 0), 0);
        CHECK.due("27: fills" + at, x.fills(0, 0, gap), 0);
        CHECK.due("28: reason" + at, x.reason(0, 0, gap), 0);
        CHECK.due("29: open" + at, x.open(0, 0, false) + x.open(0, 0, true), 0);
        CHECK.due("30: holds" + at, x.holds(0, 0), 1);
        CHECK.due("31: judge" + at, x.judge(0, 0, Check.only(gap, 5)), gap);
        CHECK.due("31: judge" + at, x.judge(0, 0, 0), LeftOut.NONE);
        CHECK.due("35: think" + at, x.think(0, 0, gap, 5), 0);
        CHECK.due("35: think" + at, x.think(0, 1, gap, 4), 0);
        CHECK.due("36: part" + at, x.part(0), 1 << gap);
        CHECK.due("35: think" + at, x.think(0, 1, gap, 5), 4);
        CHECK.due("37: far" + at, x.far(0, 0, 0), 1 << gap);
        CHECK.due("37: far" + at, x.far(0, 0, 1), 1 << gap);
        CHECK.due("38: words" + at, x.words(0, 15), LeftOut.NONE);
        CHECK.due("39: worth" + at, x.worth(0, gap, 5), 0);
        CHECK.due("40: best" + at, x.best(0, gap), LeftOut.NONE);
        CHECK.due("44: gaps with values", x.count(0), 0);
        CHECK.due("2: how many it had" + at, x.gap(gap, 1), 0);
        CHECK.due("44: gaps with values", x.count(0), 1);
    }

    private static void countsFromThenOn(int gap) {
        LeftOut x = new LeftOut();
        x.need(gap, true);
        x.bargain(0, 1, 0);
        Check.doings(x, 2, 0, 1, 1, gap, 3);
        CHECK.due("30: not missed as long as it has no values", x.holds(0, 0), 1);
        for (int k = 1; k <= 5; k++) {
            CHECK.due("2: how many it had", x.gap(gap, k), k - 1);
            CHECK.due("26: done before, " + k + " values", x.answer(0, 0), k < 3 ? 0 : Check.only(gap, 3));
            CHECK.due("29: open, " + k + " values", x.open(0, 0, false), k < 3 ? 1 << gap : 0);
            CHECK.due("30: missed, " + k + " values", x.holds(0, 0), k < 3 ? 0 : 1);
            CHECK.due("40: all laws are alike, " + k + " values", x.best(0, gap), 1);
        }
    }

    /** It hangs on a gap that has that value there: with k above 0 it would be asked. */
    private static void neverAsked(int gap, int on) {
        LeftOut x = new LeftOut();
        x.gap(on, 2);
        x.hang(gap, on, 2);
        x.need(gap, true);
        Check.bargain(x, 0, 1, 0, on + "=2");
        String title = gap + " on " + on;
        CHECK.due("26: " + title, x.answer(0, 0), Check.only(on, 2));
        CHECK.due("29: not open, " + title, x.open(0, 0, false), 0);
        CHECK.due("30: not missed, " + title, x.holds(0, 0), 1);
        x.gap(gap, 1);
        CHECK.due("29: open, " + title, x.open(0, 0, false), 1 << gap);
        CHECK.due("30: missed, " + title, x.holds(0, 0), 0);
        Check.reword(x, 0, on + "=1");
        CHECK.due("29: not asked, " + title, x.open(0, 0, false), 0);
        CHECK.due("30: not asked, " + title, x.holds(0, 0), 1);
    }

    /** It never has the value that another gap hangs on, whatever is said of it. */
    private static void neverMet(int gap, int by) {
        LeftOut x = new LeftOut();
        x.gap(by, 1);
        x.hang(by, gap, 1);
        x.need(by, true);
        Check.bargain(x, 0, 1, 0, gap + "=1" + by + "=1");
        String title = by + " on " + gap;
        CHECK.due("26: " + title, x.answer(0, 0), 0);
        CHECK.due("29: " + title, x.open(0, 0, false), 0);
        CHECK.due("30: " + title, x.holds(0, 0), 1);
        x.gap(gap, 1);
        CHECK.due("26: met, " + title, x.answer(0, 0), Check.only(gap, 1) + Check.only(by, 1));
    }

    private static void goneAndBack() {
        LeftOut x = Check.withValues(2);
        x.hang(1, 0, 2);
        Check.bargain(x, 0, 1, 0, "0=21=15=2");
        for (int i = 0; i < 3; i++) {
            CHECK.due("26: there", x.answer(0, 0), Check.filling("210002"));
            CHECK.due("2: gone", x.gap(0, 0), 2);
            CHECK.due("44: one less", x.count(0), 5);
            CHECK.due("26: gone, and what hangs on it", x.answer(0, 0), 2);
            CHECK.due("29: neither is open", x.open(0, 0, false), 4 + 8 + 16);
            CHECK.due("23: said nevertheless", x.said(0, 0), 2);
            CHECK.due("2: back", x.gap(0, 2), 0);
        }
    }
}
