/** Counts answers that are due and those that are not, for one test program. */
final class Check {
    private int passed = 0;
    private int failed = 0;

    /** One call of which the answer is due. */
    void due(String call, long got, long want) {
        if (got == want) {
            passed++;
        } else {
            failed++;
            System.out.println(call + " answered " + got + ", due is " + want);
        }
    }

    void holds(String what, boolean is) {
        due(what, is ? 1 : 0, 1);
    }

    /** THE TEXT becomes these signs. */
    static void text(LeftOut x, String signs) {
        x.wipe();
        for (int i = 0; i < signs.length(); i++) {
            x.write(1, signs.charAt(i));
        }
    }

    static int fault(LeftOut x, int kind, String signs) {
        text(x, signs);
        return x.fault(kind);
    }

    static int rule(LeftOut x, String signs) {
        text(x, signs);
        return x.rule();
    }

    static int order(LeftOut x, int order, String signs) {
        text(x, signs);
        return x.order(order);
    }

    static int bargain(LeftOut x, int a, int b, int trade, String sayings) {
        text(x, sayings);
        return x.bargain(a, b, trade);
    }

    static int reword(LeftOut x, int bargain, String sayings) {
        text(x, sayings);
        return x.reword(bargain);
    }

    /** A filling as a number, from its figures. */
    static int filling(String figures) {
        return Integer.parseInt(figures, 6);
    }

    /** Prints what came of it, and ends the program with 1 if an answer was not due. */
    void end(String name) {
        System.out.println(name + ": " + passed + " answers as due, " + failed + " not");
        if (failed != 0 || passed == 0) {
            System.exit(1);
        }
    }
}
