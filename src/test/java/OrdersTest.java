/** Promises 32 to 34: orders that fill otherwise, and THE STEP of an order. */
public final class OrdersTest {
    private static final Check CHECK = new Check();

    public static void main(String[] args) {
        differ();
        stepAndMoves();
        theFirstOfLikeSteps();
        noStep();
        refusals();
        CHECK.end("OrdersTest");
    }

    /** Gaps of five values; a bargain of 0 and 1 with a law for gaps 0 to 2 and what must be meant of 0 to 3. */
    private static LeftOut lawAndMeaning() {
        LeftOut x = new LeftOut();
        for (int gap = 0; gap < 6; gap++) {
            x.gap(gap, 5);
        }
        for (int gap = 0; gap < 3; gap++) {
            Check.rule(x, "L" + gap + "=1");
        }
        for (int gap = 0; gap < 4; gap++) {
            Check.rule(x, "M" + gap + "=2");
        }
        Check.bargain(x, 0, 1, 0, "0=3");
        return x;
    }

    private static void differ() {
        LeftOut x = lawAndMeaning();
        CHECK.due("32: the same", x.differ(0, 0, 1), 0);
        Check.order(x, 1, "MW");
        CHECK.due("32: words last", x.differ(0, 0, 1), 7);
        CHECK.due("32: the other way round", x.differ(0, 1, 0), 7);
        Check.order(x, 2, "D");
        CHECK.due("32: nothing", x.differ(0, 0, 2), 15);
        CHECK.due("32: with itself", x.differ(0, 2, 2), 0);
    }

    private static void stepAndMoves() {
        LeftOut x = lawAndMeaning();
        CHECK.due("33: law and meaning", x.step(0, 0), 3);
        CHECK.due("34: two gaps", x.moves(0, 0), 2);
        Check.order(x, 0, "LWM");
        CHECK.due("33: words and meaning move none, law and words one", x.step(0, 0), 0);
        CHECK.due("34: one gap", x.moves(0, 0), 1);
        CHECK.due("33: the order stays", x.ordered(0, 0), 3);
        Check.order(x, 3, "MLW");
        CHECK.due("33: meaning and law", x.step(0, 3), 0);
        CHECK.due("34: three gaps", x.moves(0, 3), 3);
    }

    /** By DWL words yield to what was before at gap 0, by L at gap 1: each change moves one gap. */
    private static void theFirstOfLikeSteps() {
        LeftOut x = new LeftOut();
        x.gap(0, 2);
        x.gap(1, 2);
        x.doing(0, 1, 0, 0, 1, false);
        x.doing(0, 1, 0, 0, 1, false);
        Check.rule(x, "L1=1");
        Check.bargain(x, 0, 1, 0, "0=21=2");
        Check.order(x, 0, "CDWL");
        CHECK.due("33: the first of like ones", x.step(0, 0), 1);
        CHECK.due("34: one gap", x.moves(0, 0), 1);
    }

    private static void noStep() {
        LeftOut x = lawAndMeaning();
        Check.order(x, 1, "L");
        CHECK.due("33: one letter", x.step(0, 1), LeftOut.NONE);
        CHECK.due("34: one letter", x.moves(0, 1), 0);
        Check.order(x, 1, "WDC");
        CHECK.due("33: none moves a gap", x.step(0, 1), LeftOut.NONE);
        CHECK.due("34: none moves a gap", x.moves(0, 1), 0);
    }

    private static void refusals() {
        LeftOut x = lawAndMeaning();
        int[][] unknown = {{1, 0}, {-1, 0}, {0, 4}, {0, -1}};
        for (int[] u : unknown) {
            CHECK.due("32: unknown", x.differ(u[0], u[1], 0), LeftOut.UNKNOWN);
            CHECK.due("33: unknown", x.step(u[0], u[1]), LeftOut.UNKNOWN);
            CHECK.due("34: unknown", x.moves(u[0], u[1]), LeftOut.UNKNOWN);
        }
        CHECK.due("32: the other", x.differ(0, 0, 4), LeftOut.UNKNOWN);
        CHECK.due("32: the other", x.differ(0, 0, -1), LeftOut.UNKNOWN);
    }
}
