/** Promises 1 to 12: a new object, gaps, doings. */
public final class GapsTest {
    private static final Check CHECK = new Check();

    public static void main(String[] args) {
        newObject();
        gap();
        need();
        hang();
        doingAndUndo();
        doingRefusals();
        tellAndKnows();
        term();
        before();
        custom();
        lacks();
        CHECK.end("GapsTest");
    }

    private static void newObject() {
        LeftOut x = new LeftOut();
        for (int what = 0; what <= 4; what++) {
            CHECK.due("1: count " + what, x.count(what), 0);
        }
        for (int order = 0; order < 4; order++) {
            for (int i = 0; i < 5; i++) {
                CHECK.due("1: orders are WDCLM", x.ordered(order, i), i);
            }
        }
        CHECK.due("1: no bargain", x.answer(0, 0), LeftOut.UNKNOWN);
        CHECK.due("1: no rule", x.ruled(0, 0), LeftOut.UNKNOWN);
        CHECK.due("1: no doing", x.undo(), LeftOut.LATE);
        CHECK.due("1: no slot", x.again(0), LeftOut.LATE);
        LeftOut y = new LeftOut();
        y.gap(0, 3);
        CHECK.due("1: each for itself", x.count(0), 0);
    }

    private static void gap() {
        LeftOut x = new LeftOut();
        CHECK.due("2: at first", x.gap(0, 3), 0);
        CHECK.due("2: how many it had", x.gap(0, 5), 3);
        CHECK.due("2: too many", x.gap(0, 6), LeftOut.BAD);
        CHECK.due("2: too few", x.gap(0, -1), LeftOut.BAD);
        CHECK.due("2: refused changes nothing", x.gap(0, 0), 5);
        CHECK.due("2: none left", x.gap(0, 1), 0);
        CHECK.due("2: last gap", x.gap(5, 1), 0);
        CHECK.due("2: no such gap", x.gap(6, 1), LeftOut.UNKNOWN);
        CHECK.due("2: no such gap", x.gap(-1, 1), LeftOut.UNKNOWN);
        CHECK.due("2: unknown comes first", x.gap(6, 9), LeftOut.UNKNOWN);
    }

    private static void need() {
        LeftOut x = new LeftOut();
        CHECK.due("3: at first", x.need(5, true), 0);
        CHECK.due("3: was needed", x.need(5, true), 1);
        CHECK.due("3: was needed", x.need(5, false), 1);
        CHECK.due("3: was not", x.need(5, false), 0);
        x.need(0, true);
        CHECK.due("3: each for itself", x.need(1, false), 0);
        CHECK.due("3: no such gap", x.need(6, true), LeftOut.UNKNOWN);
        CHECK.due("3: no such gap", x.need(-9, true), LeftOut.UNKNOWN);
    }

    private static void hang() {
        LeftOut x = new LeftOut();
        CHECK.due("4: at first", x.hang(2, 1, 5), LeftOut.NONE);
        CHECK.due("4: on which it hung", x.hang(2, 3, 1), 1);
        CHECK.due("4: value 0", x.hang(2, 3, 0), LeftOut.BAD);
        CHECK.due("4: value 6", x.hang(2, 3, 6), LeftOut.BAD);
        CHECK.due("4: on itself", x.hang(2, 2, 1), LeftOut.LATE);
        CHECK.due("4: bad comes before late", x.hang(2, 2, 0), LeftOut.BAD);
        CHECK.due("4: no such gap", x.hang(6, 2, 0), LeftOut.UNKNOWN);
        CHECK.due("4: no such gap", x.hang(2, 6, 0), LeftOut.UNKNOWN);
        CHECK.due("4: -1 is not none", x.hang(2, -1, 1), LeftOut.UNKNOWN);
        CHECK.due("4: no such gap, on none", x.hang(-9, LeftOut.NONE, 1), LeftOut.UNKNOWN);
        CHECK.due("4: refused changes nothing", x.hang(2, LeftOut.NONE, 99), 3);
        CHECK.due("4: on none", x.hang(2, 0, 1), LeftOut.NONE);
        asked();
    }

    private static void asked() {
        LeftOut x = new LeftOut();
        x.gap(0, 2);
        x.gap(1, 2);
        Check.bargain(x, 0, 1, 0, "1=2");
        x.hang(1, 0, 2);
        CHECK.due("4: hangs on what is open", x.answer(0, 0), 0);
        Check.reword(x, 0, "0=11=2");
        CHECK.due("4: hangs on another value", x.answer(0, 0), Check.filling("100000"));
        Check.reword(x, 0, "0=21=2");
        CHECK.due("4: hangs on this value", x.answer(0, 0), Check.filling("220000"));
        x.hang(1, LeftOut.NONE, 0);
        Check.reword(x, 0, "1=2");
        CHECK.due("4: hangs on none", x.answer(0, 0), Check.filling("020000"));
    }

    private static void doingAndUndo() {
        LeftOut x = new LeftOut();
        for (int i = 0; i < 24; i++) {
            CHECK.due("5: its number", x.doing(i % 5, (i + 1) % 5, i % 3, i % 6, 1 + i % 5, false), i);
        }
        CHECK.due("5: full", x.doing(0, 1, 0, 0, 1, false), LeftOut.FULL);
        CHECK.due("5: bad comes before full", x.doing(0, 1, 0, 0, 0, false), LeftOut.BAD);
        CHECK.due("5: unknown comes first", x.doing(1, 1, 3, 0, 0, false), LeftOut.UNKNOWN);
        CHECK.due("5: so many", x.count(1), 24);
        for (int left = 23; left >= 0; left--) {
            CHECK.due("6: how many are left", x.undo(), left);
        }
        CHECK.due("6: there is none", x.undo(), LeftOut.LATE);
        CHECK.due("6: none", x.count(1), 0);
        x.doing(0, 1, 0, 0, 3, false);
        x.doing(0, 1, 0, 0, 3, false);
        x.doing(0, 1, 0, 0, 4, true);
        CHECK.due("6: the last one counts", x.before(0, 1, 0), 0);
        x.undo();
        CHECK.due("6: it never was", x.before(0, 1, 0), 3);
    }

    private static void doingRefusals() {
        LeftOut x = new LeftOut();
        CHECK.due("5: person", x.doing(5, 1, 0, 0, 1, false), LeftOut.UNKNOWN);
        CHECK.due("5: person", x.doing(-1, 1, 0, 0, 1, false), LeftOut.UNKNOWN);
        CHECK.due("5: person", x.doing(1, 5, 0, 0, 1, false), LeftOut.UNKNOWN);
        CHECK.due("5: person", x.doing(1, -1, 0, 0, 1, false), LeftOut.UNKNOWN);
        CHECK.due("5: trade", x.doing(1, 2, 3, 0, 1, false), LeftOut.UNKNOWN);
        CHECK.due("5: trade", x.doing(1, 2, -1, 0, 1, false), LeftOut.UNKNOWN);
        CHECK.due("5: gap", x.doing(1, 2, 0, 6, 1, false), LeftOut.UNKNOWN);
        CHECK.due("5: gap", x.doing(1, 2, 0, -1, 1, false), LeftOut.UNKNOWN);
        CHECK.due("5: value", x.doing(1, 2, 0, 0, 0, false), LeftOut.BAD);
        CHECK.due("5: value", x.doing(1, 2, 0, 0, 6, false), LeftOut.BAD);
        CHECK.due("5: both are one", x.doing(2, 2, 0, 0, 1, false), LeftOut.BAD);
        CHECK.due("5: nothing is done", x.count(1), 0);
        CHECK.due("5: a gap without values will do", x.doing(4, 3, 2, 5, 5, true), 0);
    }

    private static void tellAndKnows() {
        LeftOut x = new LeftOut();
        for (int person = 0; person < 5; person++) {
            for (int trade = 0; trade < 3; trade++) {
                CHECK.due("9: none knows any at first", x.knows(person, trade), 0);
            }
        }
        CHECK.due("7: at first", x.tell(4, 2, true), 0);
        CHECK.due("7: was told", x.tell(4, 2, true), 1);
        CHECK.due("9: told", x.knows(4, 2), 1);
        CHECK.due("9: of another trade", x.knows(4, 1), 0);
        CHECK.due("9: another person", x.knows(3, 2), 0);
        CHECK.due("7: was told", x.tell(4, 2, false), 1);
        CHECK.due("7: was not told", x.tell(4, 2, false), 0);
        CHECK.due("9: not told any more", x.knows(4, 2), 0);
        x.doing(4, 0, 2, 1, 1, true);
        CHECK.due("9: by a doing", x.knows(4, 2), 1);
        CHECK.due("9: by a doing, the second", x.knows(0, 2), 1);
        CHECK.due("9: of another trade", x.knows(0, 1), 0);
        CHECK.due("7: a doing tells nothing", x.tell(0, 2, false), 0);
        CHECK.due("9: not told, but a doing", x.knows(0, 2), 1);
        x.undo();
        CHECK.due("9: no doing any more", x.knows(0, 2), 0);
        CHECK.due("7: person", x.tell(5, 0, true), LeftOut.UNKNOWN);
        CHECK.due("7: person", x.tell(-1, 0, true), LeftOut.UNKNOWN);
        CHECK.due("7: trade", x.tell(0, 3, true), LeftOut.UNKNOWN);
        CHECK.due("7: trade", x.tell(0, -1, true), LeftOut.UNKNOWN);
        CHECK.due("9: person", x.knows(5, 0), LeftOut.UNKNOWN);
        CHECK.due("9: person", x.knows(-1, 0), LeftOut.UNKNOWN);
        CHECK.due("9: trade", x.knows(0, 3), LeftOut.UNKNOWN);
        CHECK.due("9: trade", x.knows(0, -1), LeftOut.UNKNOWN);
    }

    private static void term() {
        int[] first = {2, 3, 60};
        int[] lowest = {1, 1, 51};
        int[] highest = {5, 9, 100};
        LeftOut x = new LeftOut();
        for (int what = 0; what < 3; what++) {
            CHECK.due("8: too low", x.term(what, lowest[what] - 1), LeftOut.BAD);
            CHECK.due("8: too high", x.term(what, highest[what] + 1), LeftOut.BAD);
            CHECK.due("8: at first", x.term(what, lowest[what]), first[what]);
            CHECK.due("8: lowest", x.term(what, highest[what]), lowest[what]);
            CHECK.due("8: highest", x.term(what, first[what]), highest[what]);
        }
        CHECK.due("8: no such term", x.term(3, 2), LeftOut.BAD);
        CHECK.due("8: no such term", x.term(-1, 2), LeftOut.BAD);
        CHECK.due("8: each object for itself", new LeftOut().term(2, 60), 60);
    }

    private static void before() {
        LeftOut x = new LeftOut();
        x.doing(0, 1, 0, 2, 4, false);
        CHECK.due("10: not so many", x.before(0, 1, 2), 0);
        x.doing(1, 2, 0, 2, 4, false);
        x.doing(0, 1, 0, 3, 4, false);
        CHECK.due("10: others, and at another gap", x.before(0, 1, 2), 0);
        x.doing(1, 0, 2, 2, 4, false);
        CHECK.due("10: either way round, in any trade", x.before(0, 1, 2), 4);
        CHECK.due("10: asked the other way round", x.before(1, 0, 2), 4);
        x.term(0, 3);
        CHECK.due("10: three times", x.before(0, 1, 2), 0);
        x.term(0, 1);
        CHECK.due("10: once", x.before(0, 1, 3), 4);
        x.doing(0, 1, 0, 2, 5, false);
        CHECK.due("10: the last one", x.before(0, 1, 2), 5);
        x.term(0, 2);
        CHECK.due("10: unlike ones", x.before(0, 1, 2), 0);
        x.doing(0, 1, 0, 2, 5, true);
        CHECK.due("10: objected to", x.before(0, 1, 2), 0);
        x.doing(0, 1, 0, 2, 5, false);
        CHECK.due("10: objected to, the one before", x.before(0, 1, 2), 0);
        x.doing(0, 1, 0, 2, 5, false);
        CHECK.due("10: objected to long ago", x.before(0, 1, 2), 5);
        CHECK.due("10: person", x.before(5, 1, 2), LeftOut.UNKNOWN);
        CHECK.due("10: person", x.before(1, -1, 2), LeftOut.UNKNOWN);
        CHECK.due("10: gap", x.before(1, 1, 6), LeftOut.UNKNOWN);
        CHECK.due("10: gap", x.before(1, 0, -1), LeftOut.UNKNOWN);
        CHECK.due("10: both are one", x.before(1, 1, 2), LeftOut.BAD);
    }

    private static void custom() {
        LeftOut x = new LeftOut();
        x.doing(0, 1, 1, 3, 2, false);
        x.doing(2, 3, 1, 3, 2, false);
        CHECK.due("11: too few", x.custom(1, 3), 0);
        x.doing(2, 3, 0, 3, 2, false);
        x.doing(2, 3, 1, 4, 2, false);
        CHECK.due("11: others do not count", x.custom(1, 3), 0);
        x.doing(2, 4, 1, 3, 5, false);
        CHECK.due("11: two of three", x.custom(1, 3), 2);
        x.doing(2, 4, 1, 3, 2, true);
        CHECK.due("11: objected to", x.custom(1, 3), 0);
        x.doing(2, 4, 1, 3, 2, false);
        CHECK.due("11: just the share", x.custom(1, 3), 2);
        x.term(2, 61);
        CHECK.due("11: just not the share", x.custom(1, 3), 0);
        x.term(2, 60);
        x.term(1, 6);
        CHECK.due("11: fewer than the least", x.custom(1, 3), 0);
        x.term(1, 5);
        CHECK.due("11: just the least", x.custom(1, 3), 2);
        CHECK.due("11: nothing done", x.custom(2, 3), 0);
        x.term(1, 1);
        for (int v = 1; v <= 5; v++) {
            x.doing(0, 1, 2, v, v, false);
            CHECK.due("11: any value", x.custom(2, v), v);
        }
        CHECK.due("11: trade", x.custom(3, 3), LeftOut.UNKNOWN);
        CHECK.due("11: trade", x.custom(-1, 3), LeftOut.UNKNOWN);
        CHECK.due("11: gap", x.custom(0, 6), LeftOut.UNKNOWN);
        CHECK.due("11: gap", x.custom(0, -1), LeftOut.UNKNOWN);
    }

    private static void lacks() {
        LeftOut x = new LeftOut();
        CHECK.due("12: the least", x.lacks(0, 0, 5), 3);
        x.term(1, 1);
        CHECK.due("12: one at least", x.lacks(0, 0, 5), 1);
        x.doing(0, 1, 0, 0, 5, false);
        CHECK.due("12: it is", x.lacks(0, 0, 5), 0);
        CHECK.due("12: another value", x.lacks(0, 0, 4), 2);
        x.term(2, 99);
        CHECK.due("12: just so many", x.lacks(0, 0, 4), 99);
        x.doing(0, 1, 0, 0, 5, true);
        CHECK.due("12: too many", x.lacks(0, 0, 4), LeftOut.NONE);
        CHECK.due("12: objected to", x.lacks(0, 0, 5), 98);
        x.term(2, 100);
        CHECK.due("12: never", x.lacks(0, 0, 5), LeftOut.NONE);
        CHECK.due("12: at another gap", x.lacks(0, 1, 5), 1);
        CHECK.due("12: in another trade", x.lacks(1, 0, 5), 1);
        CHECK.due("12: value", x.lacks(0, 0, 0), LeftOut.BAD);
        CHECK.due("12: value", x.lacks(0, 0, 6), LeftOut.BAD);
        CHECK.due("12: trade", x.lacks(3, 0, 0), LeftOut.UNKNOWN);
        CHECK.due("12: trade", x.lacks(-1, 0, 1), LeftOut.UNKNOWN);
        CHECK.due("12: gap", x.lacks(0, 6, 0), LeftOut.UNKNOWN);
        CHECK.due("12: gap", x.lacks(0, -1, 1), LeftOut.UNKNOWN);
    }
}
