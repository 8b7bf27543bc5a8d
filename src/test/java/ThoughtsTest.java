/** Promises 35 to 40: what the sides thought, the fewest sayings, the worth of laws. */
public final class ThoughtsTest {
    private static final Check CHECK = new Check();

    public static void main(String[] args) {
        think();
        part();
        far();
        words();
        wordsByManyOrders();
        wordsOfLikeMany();
        wordsAtAllGaps();
        wordsThatCannotBe();
        worth();
        worthWithoutLaw();
        worthAmongTwelve();
        best();
        CHECK.end("ThoughtsTest");
    }

    private static LeftOut five() {
        LeftOut x = new LeftOut();
        for (int gap = 0; gap < 6; gap++) {
            x.gap(gap, 5);
        }
        Check.bargain(x, 0, 1, 0, "");
        return x;
    }

    private static void both(LeftOut x, int bargain, int gap, int v) {
        x.think(bargain, 0, gap, v);
        x.think(bargain, 1, gap, v);
    }

    private static void think() {
        LeftOut x = five();
        CHECK.due("35: at first", x.think(0, 0, 5, 5), 0);
        CHECK.due("35: what it was", x.think(0, 0, 5, 0), 5);
        CHECK.due("35: thought no more", x.think(0, 0, 5, 1), 0);
        CHECK.due("35: the other side", x.think(0, 1, 5, 2), 0);
        CHECK.due("35: value", x.think(0, 0, 5, 6), LeftOut.BAD);
        CHECK.due("35: value", x.think(0, 0, 5, -1), LeftOut.BAD);
        CHECK.due("35: side", x.think(0, 2, 5, 1), LeftOut.BAD);
        CHECK.due("35: side", x.think(0, -1, 5, 1), LeftOut.BAD);
        CHECK.due("35: gap", x.think(0, 2, 6, 1), LeftOut.UNKNOWN);
        CHECK.due("35: gap", x.think(0, 0, -1, 1), LeftOut.UNKNOWN);
        CHECK.due("35: bargain", x.think(1, 2, 0, 1), LeftOut.UNKNOWN);
        CHECK.due("35: bargain", x.think(-1, 0, 0, 1), LeftOut.UNKNOWN);
        CHECK.due("35: refused changes nothing", x.think(0, 0, 5, 1), 1);
        Check.bargain(x, 0, 1, 0, "");
        CHECK.due("35: of another bargain", x.think(1, 0, 5, 1), 0);
    }

    private static void part() {
        LeftOut x = five();
        CHECK.due("36: they thought of nothing", x.part(0), 0);
        x.think(0, 0, 0, 1);
        CHECK.due("36: one alone", x.part(0), 0);
        x.think(0, 1, 0, 2);
        x.think(0, 0, 5, 4);
        x.think(0, 1, 5, 3);
        both(x, 0, 3, 3);
        CHECK.due("36: unlike things", x.part(0), 33);
        CHECK.due("36: bargain", x.part(1), LeftOut.UNKNOWN);
        CHECK.due("36: bargain", x.part(-1), LeftOut.UNKNOWN);
    }

    private static void far() {
        LeftOut x = five();
        Check.reword(x, 0, "0=11=2");
        x.think(0, 0, 0, 1);
        x.think(0, 1, 0, 2);
        x.think(0, 0, 1, 3);
        x.think(0, 1, 5, 3);
        CHECK.due("37: the first", x.far(0, 0, 0), 2);
        CHECK.due("37: the second, an open gap too", x.far(0, 0, 1), 33);
        Check.order(x, 1, "M");
        CHECK.due("37: by another order", x.far(0, 1, 0), 3);
        CHECK.due("37: side", x.far(0, 0, 2), LeftOut.BAD);
        CHECK.due("37: side", x.far(0, 0, -1), LeftOut.BAD);
        CHECK.due("37: bargain", x.far(1, 0, 2), LeftOut.UNKNOWN);
        CHECK.due("37: bargain", x.far(-1, 0, 0), LeftOut.UNKNOWN);
        CHECK.due("37: order", x.far(0, 4, 2), LeftOut.UNKNOWN);
        CHECK.due("37: order", x.far(0, -1, 0), LeftOut.UNKNOWN);
    }

    private static void words() {
        LeftOut x = five();
        CHECK.due("38: they thought of nothing", x.words(0, 15), 0);
        both(x, 0, 4, 2);
        both(x, 0, 1, 5);
        CHECK.due("38: both must be said", x.words(0, 1), 18);
        Check.rule(x, "L4=2?1=5");
        CHECK.due("38: one brings the other", x.words(0, 1), 2);
        Check.rule(x, "M1=5");
        CHECK.due("38: none must be said", x.words(0, 1), 0);
        x.think(0, 0, 3, 1);
        CHECK.due("38: one thought it alone", x.words(0, 1), LeftOut.NONE);
        Check.reword(x, 0, "3=1");
        CHECK.due("38: it is said", x.words(0, 1), 0);
        CHECK.due("38: no order", x.words(0, 0), LeftOut.BAD);
        CHECK.due("38: no such orders", x.words(0, 16), LeftOut.BAD);
        CHECK.due("38: no such orders", x.words(0, -1), LeftOut.BAD);
        CHECK.due("38: bargain", x.words(1, 0), LeftOut.UNKNOWN);
        CHECK.due("38: bargain", x.words(-1, 1), LeftOut.UNKNOWN);
        CHECK.due("38: nothing is said for it", x.said(0, 1), 0);
    }

    private static void wordsByManyOrders() {
        LeftOut x = five();
        both(x, 0, 0, 1);
        both(x, 0, 2, 2);
        Check.rule(x, "L0=1");
        Check.rule(x, "M2=2");
        Check.order(x, 1, "WL");
        Check.order(x, 2, "WM");
        Check.order(x, 3, "LM");
        CHECK.due("38: by the first", x.words(0, 1), 0);
        CHECK.due("38: by the second", x.words(0, 2), 4);
        CHECK.due("38: by the third", x.words(0, 4), 1);
        CHECK.due("38: by three", x.words(0, 7), 5);
        CHECK.due("38: words do nothing by the fourth", x.words(0, 8), 0);
        Check.rule(x, "B2=3");
        CHECK.due("38: bound otherwise", x.words(0, 8), LeftOut.NONE);
    }

    /** Of the three gaps any one brings the others. */
    private static void wordsOfLikeMany() {
        LeftOut x = five();
        for (int gap = 2; gap < 5; gap++) {
            both(x, 0, gap, 1);
            for (int other = 2; other < 5; other++) {
                if (other != gap) {
                    Check.rule(x, "L" + gap + "=1?" + other + "=1");
                }
            }
        }
        CHECK.due("38: the least as bits", x.words(0, 1), 4);
        Check.rule(x, "B2=2?3=0");
        CHECK.due("38: this one does not bring the others any more", x.words(0, 1), 8);
        both(x, 0, 0, 4);
        CHECK.due("38: two, the least as bits", x.words(0, 1), 1 | 8);
    }

    private static void wordsAtAllGaps() {
        LeftOut x = five();
        Check.bargain(x, 0, 1, 0, "");
        for (int gap = 0; gap < 6; gap++) {
            both(x, 0, gap, 1 + gap % 5);
        }
        CHECK.due("38: of another bargain", x.words(1, 15), 0);
        CHECK.due("38: all six", x.words(0, 15), 63);
        CHECK.due("38: of another bargain", x.words(1, 15), 0);
    }

    private static void wordsThatCannotBe() {
        LeftOut x = five();
        both(x, 0, 0, 1);
        Check.reword(x, 0, "0=2");
        CHECK.due("38: other words are there", x.words(0, 1), LeftOut.NONE);
        Check.reword(x, 0, "0=1");
        CHECK.due("38: they are there", x.words(0, 1), 0);
        Check.reword(x, 0, "");
        CHECK.due("38: not said", x.words(0, 1), 1);
        x.gap(0, 1);
        both(x, 0, 0, 2);
        CHECK.due("38: the value is not there", x.words(0, 1), LeftOut.NONE);
        x.gap(0, 2);
        x.hang(0, 1, 1);
        CHECK.due("38: it is not asked", x.words(0, 1), LeftOut.NONE);
        Check.reword(x, 0, "1=1");
        CHECK.due("38: it is asked", x.words(0, 1), 1);
        x.think(0, 1, 0, 1);
        CHECK.due("38: they part", x.words(0, 1), LeftOut.NONE);
    }

    private static void worth() {
        LeftOut x = five();
        for (int i = 1; i < 4; i++) {
            Check.bargain(x, 0, 1, i % 3, "");
        }
        Check.rule(x, "L0=5");
        both(x, 0, 0, 3);
        both(x, 1, 0, 3);
        both(x, 2, 0, 2);
        x.think(3, 0, 0, 3);
        CHECK.due("39: of two", x.worth(0, 0, 3), 2);
        CHECK.due("39: of one", x.worth(0, 0, 2), 1);
        CHECK.due("39: of none", x.worth(0, 0, 1), 0);
        CHECK.due("39: the law is not told", x.fills(0, 0, 0), 5);
        CHECK.due("39: nor kept", x.count(3), 1);
        Check.reword(x, 1, "0=3");
        CHECK.due("39: of one by law, of one by words", x.worth(0, 0, 3), 2);
        CHECK.due("39: by words alone", x.worth(0, 0, 1), 1);
        Check.reword(x, 0, "XL");
        CHECK.due("39: no law for one", x.worth(0, 0, 3), 1);
        CHECK.due("39: value", x.worth(0, 0, 0), LeftOut.BAD);
        CHECK.due("39: value", x.worth(0, 0, 6), LeftOut.BAD);
        CHECK.due("39: order", x.worth(4, 0, 0), LeftOut.UNKNOWN);
        CHECK.due("39: order", x.worth(-1, 0, 1), LeftOut.UNKNOWN);
        CHECK.due("39: gap", x.worth(0, 6, 0), LeftOut.UNKNOWN);
        CHECK.due("39: gap", x.worth(0, -1, 1), LeftOut.UNKNOWN);
    }

    private static void worthWithoutLaw() {
        LeftOut x = five();
        both(x, 0, 0, 3);
        Check.order(x, 0, "WDCM");
        CHECK.due("39: an order without law", x.worth(0, 0, 3), 0);
        Check.rule(x, "M0=3");
        CHECK.due("39: it is as thought without", x.worth(0, 0, 1), 1);
        Check.order(x, 0, "ML");
        CHECK.due("39: meaning comes first", x.worth(0, 0, 1), 1);
        Check.rule(x, "B0=4");
        CHECK.due("39: bound otherwise", x.worth(0, 0, 3), 0);
        x.unrule(1);
        x.gap(0, 2);
        both(x, 0, 0, 4);
        CHECK.due("39: a value that is not there", x.worth(0, 0, 4), 0);
    }

    private static void worthAmongTwelve() {
        LeftOut x = five();
        for (int i = 0; i < 12; i++) {
            Check.rule(x, "L0=1");
        }
        both(x, 0, 0, 2);
        CHECK.due("39: twelve others are told", x.worth(0, 0, 2), 1);
        both(x, 0, 0, 1);
        CHECK.due("39: ahead of twelve", x.worth(0, 0, 2), 0);
    }

    private static void best() {
        LeftOut x = five();
        Check.bargain(x, 0, 1, 0, "");
        Check.bargain(x, 0, 1, 0, "");
        CHECK.due("40: of like ones the least", x.best(0, 0), 1);
        both(x, 0, 0, 5);
        CHECK.due("40: the greatest worth", x.best(0, 0), 5);
        both(x, 1, 0, 3);
        CHECK.due("40: of like ones the least", x.best(0, 0), 3);
        both(x, 2, 0, 5);
        CHECK.due("40: of two", x.best(0, 0), 5);
        x.gap(0, 4);
        CHECK.due("40: only values that are there", x.best(0, 0), 3);
        x.gap(0, 0);
        CHECK.due("40: no values", x.best(0, 0), LeftOut.NONE);
        CHECK.due("40: order", x.best(4, 0), LeftOut.UNKNOWN);
        CHECK.due("40: order", x.best(-1, 0), LeftOut.UNKNOWN);
        CHECK.due("40: gap", x.best(0, 6), LeftOut.UNKNOWN);
        CHECK.due("40: gap", x.best(0, -1), LeftOut.UNKNOWN);
    }
}
