/** Counts answers that are due and those that are not, for one test program. */
final class Check {
    private int passed = 0;
    private int failed = 0;

    /** One call of which the answer is due. */
    void due(String call, long got, long want) {
        if (got == want) {
            passed++;
        } else {
            failed++;
            System.out.println(call + " answered " + got + ", due is " + want);
        }
    }

    void holds(String what, boolean is) {
        due(what, is ? 1 : 0, 1);
    }

    /** THE TEXT becomes these signs, by as few calls as can be: an object is promised for 512. */
    static void text(LeftOut x, String signs) {
        x.wipe();
        for (int i = 0; i < signs.length(); i += 8) {
            int n = Math.min(8, signs.length() - i);
            long v = 0;
            for (int j = i; j < i + n; j++) {
                v = v << 8 | signs.charAt(j);
            }
            x.write(n, v);
        }
    }

    static int fault(LeftOut x, int kind, String signs) {
        text(x, signs);
        return x.fault(kind);
    }

    static int rule(LeftOut x, String signs) {
        text(x, signs);
        return x.rule();
    }

    static int order(LeftOut x, int order, String signs) {
        text(x, signs);
        return x.order(order);
    }

    static int bargain(LeftOut x, int a, int b, int trade, String sayings) {
        text(x, sayings);
        return x.bargain(a, b, trade);
    }

    static int reword(LeftOut x, int bargain, String sayings) {
        text(x, sayings);
        return x.reword(bargain);
    }

    /** Doings that are all like one another, not objected to. */
    static void doings(LeftOut x, int n, int a, int b, int trade, int gap, int v) {
        for (int i = 0; i < n; i++) {
            x.doing(a, b, trade, gap, v, false);
        }
    }

    /** A new object whose gaps all have so many values. */
    static LeftOut withValues(int k) {
        LeftOut x = new LeftOut();
        for (int gap = 0; gap < 6; gap++) {
            x.gap(gap, k);
        }
        return x;
    }

    /** The filling that has a value at one gap and is open at all others. */
    static int only(int gap, int v) {
        int place = v;
        for (int i = gap; i < 5; i++) {
            place *= 6;
        }
        return place;
    }

    /** A filling as a number, from its figures. */
    static int filling(String figures) {
        return Integer.parseInt(figures, 6);
    }

    /** Prints what came of it, and ends the program with 1 if an answer was not due. */
    void end(String name) {
        System.out.println(name + ": " + passed + " answers as due, " + failed + " not");
        if (failed != 0 || passed == 0) {
            System.exit(1);
        }
    }
}
