/** Promises 41 to 44: slots, and what is counted. */
public final class SlotsTest {
    private static final Check CHECK = new Check();

    public static void main(String[] args) {
        keepAndAgain();
        since();
        sinceByTellings();
        count();
        CHECK.end("SlotsTest");
    }

    private static void keepAndAgain() {
        LeftOut x = new LeftOut();
        CHECK.due("42: none were kept", x.again(0), LeftOut.LATE);
        CHECK.due("41: none", x.keep(0), 0);
        x.doing(0, 1, 0, 0, 3, false);
        x.doing(0, 1, 0, 0, 3, false);
        x.tell(4, 2, true);
        CHECK.due("42: the other was not kept", x.again(1), LeftOut.LATE);
        CHECK.due("41: how many", x.keep(1), 2);
        x.undo();
        x.undo();
        x.doing(2, 3, 1, 4, 5, true);
        x.tell(4, 2, false);
        x.tell(3, 0, true);
        CHECK.due("42: how many", x.again(1), 2);
        CHECK.due("42: the doings", x.before(0, 1, 0), 3);
        CHECK.due("42: in their trade", x.knows(0, 0), 1);
        CHECK.due("42: in no other trade", x.knows(0, 1), 0);
        CHECK.due("42: who is told", x.tell(4, 2, true), 1);
        CHECK.due("42: who is not told", x.tell(3, 0, false), 0);
        x.doing(0, 1, 0, 0, 4, false);
        CHECK.due("42: later doings are not kept", x.again(1), 2);
        CHECK.due("42: the other slot", x.again(0), 0);
        CHECK.due("42: who is told", x.knows(4, 2), 0);
        CHECK.due("41: over what was kept", x.keep(1), 0);
        CHECK.due("42: the last that was kept", x.again(1), 0);
        CHECK.due("41: slot", x.keep(2), LeftOut.UNKNOWN);
        CHECK.due("41: slot", x.keep(-1), LeftOut.UNKNOWN);
        CHECK.due("42: slot", x.again(2), LeftOut.UNKNOWN);
        CHECK.due("42: slot", x.again(-1), LeftOut.UNKNOWN);
        restStays();
    }

    private static void restStays() {
        LeftOut x = new LeftOut();
        x.keep(0);
        x.gap(0, 3);
        x.term(1, 1);
        Check.rule(x, "L0=1");
        Check.bargain(x, 0, 1, 0, "");
        x.again(0);
        CHECK.due("42: gaps stay", x.count(0), 1);
        CHECK.due("42: terms stay", x.term(1, 1), 1);
        CHECK.due("42: rules stay", x.count(3), 1);
        CHECK.due("42: bargains stay", x.count(4), 1);
    }

    private static void since() {
        LeftOut x = new LeftOut();
        x.gap(0, 5);
        x.gap(1, 5);
        x.doing(0, 1, 0, 0, 3, false);
        x.doing(0, 1, 0, 0, 3, false);
        x.doing(0, 1, 0, 1, 3, false);
        x.doing(0, 1, 0, 1, 3, false);
        Check.bargain(x, 0, 1, 0, "");
        Check.bargain(x, 1, 0, 1, "0=1");
        Check.bargain(x, 2, 1, 0, "");
        CHECK.due("43: none were kept", x.since(0, 0), LeftOut.LATE);
        x.keep(0);
        CHECK.due("43: all as it was", x.since(0, 0), 0);
        x.undo();
        CHECK.due("43: two answers", x.since(0, 0), 2);
        x.undo();
        x.undo();
        CHECK.due("43: two answers, however many gaps", x.since(0, 0), 2);
        Check.order(x, 1, "WCLM");
        CHECK.due("43: by another order", x.since(1, 0), 0);
        CHECK.due("43: nothing is changed", x.count(1), 1);
        CHECK.due("43: the other slot", x.since(0, 1), LeftOut.LATE);
        CHECK.due("43: slot", x.since(0, 2), LeftOut.UNKNOWN);
        CHECK.due("43: slot", x.since(0, -1), LeftOut.UNKNOWN);
        CHECK.due("43: order", x.since(4, 1), LeftOut.UNKNOWN);
        CHECK.due("43: order", x.since(-1, 0), LeftOut.UNKNOWN);
    }

    private static void sinceByTellings() {
        LeftOut x = new LeftOut();
        x.gap(0, 5);
        for (int i = 0; i < 3; i++) {
            x.doing(2, 3, 0, 0, 4, false);
        }
        Check.bargain(x, 0, 1, 0, "");
        x.keep(1);
        x.tell(0, 0, true);
        CHECK.due("43: one is told", x.since(0, 1), 0);
        x.tell(1, 0, true);
        CHECK.due("43: both are told", x.since(0, 1), 1);
        x.term(1, 4);
        CHECK.due("43: by the terms as they are", x.since(0, 1), 0);
    }

    private static void count() {
        LeftOut x = new LeftOut();
        x.gap(0, 3);
        x.gap(5, 1);
        x.gap(4, 1);
        x.gap(4, 0);
        CHECK.due("44: gaps with values", x.count(0), 2);
        x.doing(0, 1, 0, 0, 1, false);
        CHECK.due("44: doings", x.count(1), 1);
        Check.rule(x, "L0=1@2");
        CHECK.due("44: bytes", x.count(2), 6);
        CHECK.due("44: rules", x.count(3), 1);
        Check.bargain(x, 0, 1, 0, "");
        Check.bargain(x, 0, 1, 0, "");
        CHECK.due("44: bargains", x.count(4), 2);
        CHECK.due("44: what", x.count(5), LeftOut.BAD);
        CHECK.due("44: what", x.count(-1), LeftOut.BAD);
    }
}
