/** The edges that section 1 names: values, gaps that hang, 24 doings, who knows, TIMES, LEAST and SHARE. */
public final class TermsEdgesTest {
    private static final Check CHECK = new Check();

    public static void main(String[] args) {
        valuesOfEachGap();
        noGapWithoutValues();
        neededNotAtFirst();
        hangsOnNoneAtFirst();
        hangsOnEachOther();
        hangsOnEachValue();
        hangsOnAGapWithoutValues();
        hangsInACircle();
        hangValueIsNotLookedAt();
        doingsUpTo24();
        eachPersonKnowsEachTrade();
        knowsByDoings();
        termsAtTheirEdges();
        beforeSoManyTimes();
        beforeOneUnlike();
        beforeOneObjected();
        beforeAmong24();
        beforeOfJustTheseTwo();
        customFromTheLeast();
        leastCountsAll();
        customByEachShare();
        customEachForItself();
        lacksByEachShare();
        lacksAtItsEdges();
        CHECK.end("TermsEdgesTest");
    }

    private static void valuesOfEachGap() {
        for (int gap = 0; gap < 6; gap++) {
            for (int k = 0; k <= 5; k++) {
                LeftOut x = new LeftOut();
                CHECK.due("2: no values at first", x.gap(gap, k), 0);
                CHECK.due("44: gaps with values", x.count(0), k > 0 ? 1 : 0);
                x.bargain(0, 1, 0);
                for (int v = 1; v <= 5; v++) {
                    Check.reword(x, 0, gap + "=" + v);
                    String title = gap + "=" + v + " of " + k;
                    CHECK.due("26: " + title, x.answer(0, 0), v <= k ? Check.only(gap, v) : 0);
                    CHECK.due("29: " + title, x.open(0, 0, false), k > 0 && v > k ? 1 << gap : 0);
                    CHECK.due("23: what is said stays said, " + title, x.said(0, gap), v);
                }
                CHECK.due("2: how many it had", x.gap(gap, 5), k);
            }
        }
    }

    /** There is no such gap, as long as it has no values: nothing fills it, nothing is open. */
    private static void noGapWithoutValues() {
        LeftOut x = new LeftOut();
        Check.doings(x, 3, 0, 1, 0, 2, 1);
        Check.rule(x, "B2=1");
        Check.rule(x, "L2=1");
        Check.rule(x, "M2=1");
        Check.bargain(x, 0, 1, 0, "2=1");
        x.need(2, true);
        CHECK.due("26: not filled", x.answer(0, 0), 0);
        CHECK.due("28: by nothing", x.reason(0, 0, 2), 0);
        CHECK.due("29: not open", x.open(0, 0, false), 0);
        CHECK.due("30: not missed", x.holds(0, 0), 1);
        CHECK.due("10: done before nevertheless", x.before(0, 1, 2), 1);
        CHECK.due("11: custom nevertheless", x.custom(0, 2), 1);
        CHECK.due("12: custom nevertheless", x.lacks(0, 2, 1), 0);
        x.gap(2, 1);
        CHECK.due("26: filled, with one value", x.answer(0, 0), Check.only(2, 1));
        x.gap(2, 0);
        CHECK.due("26: gone again", x.answer(0, 0), 0);
    }

    private static void neededNotAtFirst() {
        for (int gap = 0; gap < 6; gap++) {
            LeftOut x = Check.withValues(1);
            x.bargain(0, 1, 0);
            CHECK.due("30: none is needed at first", x.holds(0, 0), 1);
            CHECK.due("3: not at first", x.need(gap, true), 0);
            CHECK.due("30: one is needed and open", x.holds(0, 0), 0);
            for (int other = 0; other < 6; other++) {
                CHECK.due("3: just this one", x.need(other, other == gap), other == gap ? 1 : 0);
            }
            Check.reword(x, 0, gap + "=1");
            CHECK.due("30: the one needed is filled", x.holds(0, 0), 1);
        }
    }

    private static void hangsOnNoneAtFirst() {
        for (int gap = 0; gap < 6; gap++) {
            LeftOut x = new LeftOut();
            x.gap(gap, 1);
            Check.bargain(x, 0, 1, 0, gap + "=1");
            CHECK.due("29: asked at first", x.answer(0, 0), Check.only(gap, 1));
            CHECK.due("4: on none at first", x.hang(gap, LeftOut.NONE, 0), LeftOut.NONE);
            CHECK.due("4: on none again", x.hang(gap, (gap + 1) % 6, 1), LeftOut.NONE);
            CHECK.due("29: not asked any more", x.answer(0, 0), 0);
        }
    }

    private static void hangsOnEachOther() {
        for (int gap = 0; gap < 6; gap++) {
            LeftOut x = new LeftOut();
            int was = LeftOut.NONE;
            for (int on = 0; on < 6; on++) {
                CHECK.due("4: " + gap + " on " + on, x.hang(gap, on, 1), on == gap ? LeftOut.LATE : was);
                was = on == gap ? was : on;
            }
            CHECK.due("4: another value alone", x.hang(gap, was, 5), was);
            CHECK.due("4: on which it hung", x.hang(gap, LeftOut.NONE, 5), was);
        }
    }

    private static void hangsOnEachValue() {
        for (int at = 1; at <= 5; at++) {
            LeftOut x = Check.withValues(5);
            x.hang(5, 0, at);
            x.bargain(0, 1, 0);
            for (int v = 1; v <= 5; v++) {
                Check.reword(x, 0, "5=30=" + v);
                int hung = v == at ? 3 : 0;
                CHECK.due("26: at " + at + ", there is " + v, x.answer(0, 0), Check.only(0, v) + hung);
                CHECK.due("29: at " + at + ", there is " + v, x.open(0, 0, false), 2 + 4 + 8 + 16);
            }
            Check.reword(x, 0, "5=3");
            CHECK.due("26: at " + at + ", it is open", x.answer(0, 0), 0);
            x.gap(0, at - 1);
            Check.reword(x, 0, "5=30=" + at);
            CHECK.due("26: the value " + at + " is not there", x.answer(0, 0), 0);
        }
    }

    private static void hangsOnAGapWithoutValues() {
        LeftOut x = new LeftOut();
        x.gap(1, 2);
        x.hang(1, 0, 1);
        x.need(1, true);
        Check.bargain(x, 0, 1, 0, "0=11=2");
        CHECK.due("26: never asked", x.answer(0, 0), 0);
        CHECK.due("29: not open", x.open(0, 0, false), 0);
        CHECK.due("30: not missed", x.holds(0, 0), 1);
        CHECK.due("24: in a filling that has the value there", x.next(0, 0, Check.only(0, 1)), Check.only(1, 2));
        x.gap(0, 1);
        CHECK.due("26: asked, with a value there", x.answer(0, 0), Check.filling("120000"));
    }

    private static void hangsInACircle() {
        LeftOut x = Check.withValues(1);
        for (int gap = 0; gap < 6; gap++) {
            CHECK.due("4: each on the next", x.hang(gap, (gap + 1) % 6, 1), LeftOut.NONE);
        }
        Check.bargain(x, 0, 1, 0, "0=11=12=13=14=15=1");
        CHECK.due("26: none is asked", x.answer(0, 0), 0);
        CHECK.due("25: nothing comes", x.rounds(0, 0, false), 0);
        CHECK.due("29: none is open", x.open(0, 0, false), 0);
        CHECK.due("24: all stay asked", x.next(0, 0, Check.filling("111111")), Check.filling("111111"));
        CHECK.due("24: the one ahead is not", x.next(0, 0, Check.filling("111110")), Check.filling("111101"));
        x.hang(5, LeftOut.NONE, 0);
        CHECK.due("26: one by one", x.answer(0, 0), Check.filling("111111"));
        CHECK.due("25: one by one", x.rounds(0, 0, false), 6);
    }

    private static void hangValueIsNotLookedAt() {
        for (int v : new int[] {Integer.MIN_VALUE, -9, -1, 0, 6, Integer.MAX_VALUE}) {
            LeftOut x = Check.withValues(5);
            x.hang(0, 1, 5);
            CHECK.due("4: on none, with " + v, x.hang(0, LeftOut.NONE, v), 1);
            Check.bargain(x, 0, 1, 0, "0=4");
            CHECK.due("4: asked, with " + v, x.answer(0, 0), Check.only(0, 4));
        }
    }

    private static void doingsUpTo24() {
        LeftOut x = new LeftOut();
        CHECK.due("44: none at first", x.count(1), 0);
        for (int i = 0; i < 23; i++) {
            x.doing(0, 4, 2, 5, 5, i % 2 == 0);
        }
        CHECK.due("5: the last that there can be", x.doing(4, 0, 0, 0, 1, true), 23);
        CHECK.due("5: one too many", x.doing(0, 4, 2, 5, 5, false), LeftOut.FULL);
        CHECK.due("44: all", x.count(1), 24);
        CHECK.due("6: one less", x.undo(), 23);
        CHECK.due("5: room for one", x.doing(0, 4, 2, 5, 5, false), 23);
        CHECK.due("5: and no more", x.doing(0, 4, 2, 5, 5, false), LeftOut.FULL);
        for (int i = 0; i < 24; i++) {
            x.undo();
        }
        CHECK.due("6: none is left", x.undo(), LeftOut.LATE);
        CHECK.due("5: the first again", x.doing(0, 4, 2, 5, 5, false), 0);
        CHECK.due("6: none is left", x.undo(), 0);
    }

    private static void eachPersonKnowsEachTrade() {
        for (int i = 0; i < 15; i++) {
            LeftOut x = new LeftOut();
            CHECK.due("7: not told at first", x.tell(i / 3, i % 3, true), 0);
            for (int j = 0; j < 15; j++) {
                CHECK.due("9: just this one", x.knows(j / 3, j % 3), i == j ? 1 : 0);
                CHECK.due("7: just this one", x.tell(j / 3, j % 3, true), i == j ? 1 : 0);
            }
            CHECK.due("7: was told", x.tell(i / 3, i % 3, false), 1);
            for (int j = 0; j < 15; j++) {
                CHECK.due("9: all but this one", x.knows(j / 3, j % 3), i == j ? 0 : 1);
            }
        }
    }

    private static void knowsByDoings() {
        for (int a = 0; a < 5; a++) {
            int b = (a + 2) % 5;
            LeftOut x = new LeftOut();
            x.doing(a, b, a % 3, 0, 1, true);
            for (int j = 0; j < 15; j++) {
                boolean is = (j / 3 == a || j / 3 == b) && j % 3 == a % 3;
                CHECK.due("9: the two, the trade, objected to or not", x.knows(j / 3, j % 3), is ? 1 : 0);
            }
        }
        LeftOut x = new LeftOut();
        Check.doings(x, 23, 0, 1, 0, 0, 1);
        x.doing(2, 3, 2, 5, 5, false);
        CHECK.due("9: by the last of 24", x.knows(3, 2), 1);
        x.undo();
        CHECK.due("9: not by what never was", x.knows(3, 2), 0);
        CHECK.due("9: by those that are left", x.knows(1, 0), 1);
    }

    private static void termsAtTheirEdges() {
        int[][] terms = {{2, 1, 5}, {3, 1, 9}, {60, 51, 100}};
        LeftOut x = new LeftOut();
        for (int what = 0; what < 3; what++) {
            int was = terms[what][0];
            for (int v = terms[what][1]; v <= terms[what][2]; v++) {
                CHECK.due("8: term " + what + " is " + v, x.term(what, v), was);
                was = v;
            }
            for (int v : new int[] {terms[what][1] - 1, terms[what][2] + 1, 0, -1, Integer.MIN_VALUE, Integer.MAX_VALUE}) {
                CHECK.due("8: term " + what + " is not " + v, x.term(what, v), LeftOut.BAD);
            }
            CHECK.due("8: what it was", x.term(what, terms[what][0]), was);
        }
        for (int what : new int[] {-1, 3, LeftOut.NONE, Integer.MIN_VALUE, Integer.MAX_VALUE}) {
            CHECK.due("8: no term " + what, x.term(what, 5), LeftOut.BAD);
            CHECK.due("8: no term " + what, x.term(what, 60), LeftOut.BAD);
        }
    }

    private static void beforeSoManyTimes() {
        for (int times = 1; times <= 5; times++) {
            LeftOut x = new LeftOut();
            x.term(0, times);
            for (int n = 1; n <= 6; n++) {
                x.doing(n % 2, 1 - n % 2, n % 3, 5, 3, false);
                CHECK.due("10: " + n + " of " + times, x.before(0, 1, 5), n >= times ? 3 : 0);
            }
        }
        LeftOut x = new LeftOut();
        x.doing(0, 1, 0, 0, 5, false);
        CHECK.due("10: once is not enough at first", x.before(0, 1, 0), 0);
        x.doing(0, 1, 0, 0, 5, false);
        CHECK.due("10: twice is, at first", x.before(0, 1, 0), 5);
        x.undo();
        CHECK.due("10: once again", x.before(0, 1, 0), 0);
    }

    /** The one that is unlike the others is 1st, 2nd, .. from behind. */
    private static void beforeOneUnlike() {
        for (int times = 1; times <= 5; times++) {
            for (int place = 1; place <= 7; place++) {
                LeftOut x = new LeftOut();
                x.term(0, times);
                for (int i = 7; i >= 1; i--) {
                    x.doing(3, 4, 1, 2, i == place ? 5 : 1, false);
                }
                int last = times == 1 && place == 1 ? 5 : 1;
                String title = "10: " + place + " from behind of " + times;
                CHECK.due(title, x.before(4, 3, 2), times == 1 || place > times ? last : 0);
            }
        }
    }

    private static void beforeOneObjected() {
        for (int times = 1; times <= 5; times++) {
            for (int place = 1; place <= 7; place++) {
                LeftOut x = new LeftOut();
                x.term(0, times);
                for (int i = 7; i >= 1; i--) {
                    x.doing(3, 4, 1, 2, 4, i == place);
                }
                CHECK.due("10: objected to " + place + " from behind of " + times, x.before(3, 4, 2), place > times ? 4 : 0);
            }
        }
    }

    private static void beforeAmong24() {
        for (int first = 0; first <= 19; first++) {
            LeftOut x = new LeftOut();
            x.term(0, 5);
            for (int i = 0; i < 24; i++) {
                boolean own = i >= first && i < first + 5;
                x.doing(0, own ? 1 : 2, 0, 0, own ? 2 : 3, !own);
            }
            CHECK.due("10: from " + first + " of 24", x.before(1, 0, 0), 2);
            CHECK.due("10: of the others", x.before(2, 0, 0), 0);
        }
    }

    private static void beforeOfJustTheseTwo() {
        LeftOut x = new LeftOut();
        Check.doings(x, 2, 0, 1, 0, 3, 2);
        Check.doings(x, 2, 0, 2, 0, 3, 4);
        Check.doings(x, 2, 3, 1, 0, 3, 5);
        Check.doings(x, 2, 0, 1, 0, 2, 3);
        Check.doings(x, 2, 0, 1, 0, 4, 1);
        int[][] want = {{0, 1, 3, 2}, {1, 0, 3, 2}, {0, 2, 3, 4}, {1, 3, 3, 5}, {2, 3, 3, 0}, {1, 2, 3, 0},
            {0, 1, 2, 3}, {0, 1, 4, 1}, {0, 1, 5, 0}, {0, 4, 3, 0}};
        for (int[] w : want) {
            CHECK.due("10: of " + w[0] + " and " + w[1] + " at " + w[2], x.before(w[0], w[1], w[2]), w[3]);
        }
    }

    private static void customFromTheLeast() {
        for (int least = 1; least <= 9; least++) {
            LeftOut x = new LeftOut();
            x.term(1, least);
            CHECK.due("11: none, " + least + " at least", x.custom(2, 5), 0);
            for (int n = 1; n <= 10; n++) {
                x.doing(n % 5, (n + 1) % 5, 2, 5, 5, false);
                CHECK.due("11: " + n + ", " + least + " at least", x.custom(2, 5), n >= least ? 5 : 0);
                CHECK.due("11: not of another trade", x.custom(n % 2, 5), 0);
                CHECK.due("11: not at another gap", x.custom(2, n % 5), 0);
            }
        }
    }

    private static void leastCountsAll() {
        LeftOut x = new LeftOut();
        x.doing(0, 1, 0, 0, 4, true);
        Check.doings(x, 1, 0, 1, 0, 0, 4);
        CHECK.due("11: two at first", x.custom(0, 0), 0);
        Check.doings(x, 1, 0, 1, 0, 0, 4);
        CHECK.due("11: three at first, one of them objected to", x.custom(0, 0), 4);
    }

    /** Of n doings own ones have the value 4; the others the value 2, or 4 and are objected to. */
    private static LeftOut trade(int n, int own, boolean objected) {
        LeftOut x = new LeftOut();
        x.term(1, 1);
        for (int i = 0; i < n; i++) {
            x.doing(0, 1, 1, 3, i < own || objected ? 4 : 2, i >= own && objected);
        }
        return x;
    }

    private static void customByEachShare() {
        for (int n = 1; n <= 24; n++) {
            for (int own = 0; own <= n; own++) {
                LeftOut unlike = trade(n, own, false);
                LeftOut objected = trade(n, own, true);
                for (int share = 51; share <= 100; share++) {
                    unlike.term(2, share);
                    objected.term(2, share);
                    int value = own * 100 >= share * n ? 4 : 0;
                    int other = (n - own) * 100 >= share * n ? 2 : 0;
                    String title = "11: " + own + " of " + n + " by " + share;
                    CHECK.due(title, unlike.custom(1, 3), Math.max(value, other));
                    CHECK.due(title + ", others objected to", objected.custom(1, 3), value);
                }
            }
        }
    }

    /** All are asked in turn, and twice: none is counted to another one. */
    private static void customEachForItself() {
        LeftOut x = new LeftOut();
        x.term(1, 1);
        for (int i = 0; i < 18; i++) {
            x.doing(0, 1, i % 3, i / 3, 1 + i % 5, i == 17);
        }
        for (int i = 0; i < 36; i++) {
            int own = i % 18;
            CHECK.due("11: trade " + own % 3 + " at " + own / 3, x.custom(own % 3, own / 3), own == 17 ? 0 : 1 + own % 5);
            for (int v = 1; v <= 5; v++) {
                boolean is = v == 1 + own % 5 && own != 17;
                CHECK.due("12: trade " + own % 3 + " at " + own / 3, x.lacks(own % 3, own / 3, v), is ? 0 : 2);
            }
        }
    }

    /** The fewest that bring own and all to the share, counted by the share alone. */
    private static int lacking(int n, int own, int least, int share) {
        int short100 = share * n - own * 100;
        int forShare = short100 <= 0 ? 0 : share == 100 ? 100 : (short100 + 99 - share) / (100 - share);
        int more = Math.max(forShare, least - n);
        return more > 99 ? LeftOut.NONE : more;
    }

    private static void lacksByEachShare() {
        for (int n = 0; n <= 24; n++) {
            for (int own = 0; own <= n; own += 1 + n / 8) {
                for (int least = 1; least <= 9; least += 4) {
                    LeftOut x = trade(n, own, own % 2 == 1);
                    x.term(1, least);
                    for (int share = 51; share <= 100; share++) {
                        x.term(2, share);
                        String title = "12: " + own + " of " + n + " by " + share + ", " + least + " at least";
                        CHECK.due(title, x.lacks(1, 3, 4), lacking(n, own, least, share));
                        CHECK.due(title + ", of a value not done", x.lacks(1, 3, 5), lacking(n, 0, least, share));
                    }
                }
            }
        }
    }

    private static void lacksAtItsEdges() {
        LeftOut x = new LeftOut();
        x.term(1, 1);
        x.term(2, 99);
        Check.doings(x, 1, 0, 1, 0, 0, 1);
        CHECK.due("12: just 99", x.lacks(0, 0, 2), 99);
        Check.doings(x, 1, 0, 1, 0, 0, 2);
        CHECK.due("12: just 98", x.lacks(0, 0, 2), 98);
        x.undo();
        x.undo();
        x.term(2, 98);
        Check.doings(x, 2, 0, 1, 0, 0, 1);
        CHECK.due("12: just 98 of two", x.lacks(0, 0, 2), 98);
        x.term(2, 99);
        CHECK.due("12: 198 are too many", x.lacks(0, 0, 2), LeftOut.NONE);
        x.term(2, 51);
        Check.doings(x, 22, 0, 1, 0, 0, 1);
        CHECK.due("12: though there are 24 already", x.lacks(0, 0, 2), 25);
        CHECK.due("12: nothing is done", x.count(1), 24);
        x.term(1, 9);
        x.term(2, 100);
        CHECK.due("12: none was done", x.lacks(2, 5, 5), 9);
        CHECK.due("12: others can not be undone", x.lacks(0, 0, 2), LeftOut.NONE);
    }
}
