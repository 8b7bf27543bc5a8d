/** The edges that section 4 names: steps of orders, thoughts, the fewest sayings, the worth of laws, slots; counts. */
public final class ThoughtEdgesTest {
    private static final Check CHECK = new Check();

    public static void main(String[] args) {
        differAtEachGap();
        stepAtEachPlace();
        stepOfEachLength();
        stepMovesUpToSix();
        thinkEachValue();
        partAtEachGap();
        farAtEachGap();
        farFromWhatTurns();
        wordsByEachSetOfOrders();
        wordsAsFewAsCanBe();
        wordsOfLikeManyTheLeast();
        wordsThereAlready();
        wordsNeverCrossed();
        wordsForBothSides();
        worthOfUpToEight();
        worthAheadOfAllLaws();
        worthOfValuesNotThere();
        bestOfEachNumberOfValues();
        bestOfLikeOnesTheLeast();
        slotsKeepForThemselves();
        slotsKeep24();
        slotsNotKept();
        sinceOfUpToEight();
        countAtTheEdges();
        theLast512th();
        CHECK.end("ThoughtEdgesTest");
    }

    private static LeftOut five(String words) {
        LeftOut x = Check.withValues(5);
        Check.bargain(x, 0, 1, 0, words);
        return x;
    }

    private static void both(LeftOut x, int bargain, int gap, int v) {
        x.think(bargain, 0, gap, v);
        x.think(bargain, 1, gap, v);
    }

    private static void differAtEachGap() {
        for (int set = 0; set < 64; set++) {
            LeftOut x = five("");
            for (int gap = 0; gap < 6; gap++) {
                Check.rule(x, "L" + gap + "=2");
                Check.rule(x, "M" + gap + "=" + ((set >> gap & 1) == 1 ? 3 : 2));
            }
            Check.order(x, 3, "ML");
            CHECK.due("32: " + set, x.differ(0, 0, 3), set);
            CHECK.due("32: " + set, x.differ(0, 3, 2), set);
            CHECK.due("32: from itself", x.differ(0, 3, 3), 0);
            CHECK.due("33: " + set, x.step(0, 3), set == 0 ? LeftOut.NONE : 0);
            CHECK.due("34: " + set, x.moves(0, 3), Integer.bitCount(set));
            CHECK.due("33: " + set + " by law ahead of meaning", x.step(0, 0), set == 0 ? LeftOut.NONE : 3);
        }
    }

    /** Words and law stand at each place of orders of five: only their change moves a gap, or none does. */
    private static void stepAtEachPlace() {
        for (int place = 0; place < 4; place++) {
            for (String two : new String[] {"WL", "LW"}) {
                LeftOut x = five("0=1");
                Check.rule(x, "L0=2");
                String order = "DCM".substring(0, place) + two + "DCM".substring(place);
                Check.order(x, 2, order);
                CHECK.due("33: " + order, x.step(0, 2), place);
                CHECK.due("34: " + order, x.moves(0, 2), 1);
                for (int i = 0; i < 5; i++) {
                    CHECK.due("33: the order stays", x.ordered(2, i), "WDCLM".indexOf(order.charAt(i)));
                }
                Check.order(x, 2, two.charAt(0) + "D" + two.charAt(1));
                CHECK.due("33: not next to one another", x.step(0, 2), LeftOut.NONE);
                CHECK.due("34: not next to one another", x.moves(0, 2), 0);
            }
        }
    }

    private static void stepOfEachLength() {
        LeftOut x = five("0=1");
        Check.rule(x, "M0=2");
        String[] orders = {"M", "W", "MW", "WM", "DMW", "DWM", "DCMW", "LDCMW", "LMWDC", "MDW"};
        int[] steps = {LeftOut.NONE, LeftOut.NONE, 0, 0, 1, 1, 2, 3, 1, LeftOut.NONE};
        for (int i = 0; i < orders.length; i++) {
            Check.order(x, 0, orders[i]);
            CHECK.due("33: " + orders[i], x.step(0, 0), steps[i]);
            CHECK.due("34: " + orders[i], x.moves(0, 0), steps[i] < 0 ? 0 : 1);
        }
    }

    /** The later of two changes moves more, up to all six; of like many the first is told. */
    private static void stepMovesUpToSix() {
        for (int first = 0; first <= 6; first++) {
            LeftOut x = five("0=11=12=13=14=15=1");
            for (int gap = 0; gap < 6; gap++) {
                Check.rule(x, (gap < first ? "L" : "M") + gap + "=2");
            }
            Check.order(x, 0, "LWM");
            int most = Math.max(first, 6 - first);
            CHECK.due("33: " + first + " of six by law", x.step(0, 0), first >= 3 ? 0 : 1);
            CHECK.due("34: " + first + " of six by law", x.moves(0, 0), most);
        }
    }

    private static void thinkEachValue() {
        for (int gap = 0; gap < 6; gap++) {
            LeftOut x = new LeftOut();
            x.bargain(0, 1, 0);
            x.bargain(0, 1, 0);
            for (int side = 0; side < 2; side++) {
                int was = 0;
                for (int v : new int[] {1, 2, 3, 4, 5, 0, 5, 0, 1}) {
                    CHECK.due("35: what it was", x.think(1, side, gap, v), was);
                    was = v;
                }
            }
            for (int i = 0; i < 24; i++) {
                boolean own = i / 12 == 1 && i % 6 == gap;
                CHECK.due("35: just there", x.think(i / 12, i / 6 % 2, i % 6, 0), own ? 1 : 0);
            }
            for (int v : new int[] {-1, 6, LeftOut.NONE, Integer.MIN_VALUE, Integer.MAX_VALUE}) {
                CHECK.due("35: value " + v, x.think(0, 0, gap, v), LeftOut.BAD);
                CHECK.due("35: side " + v, x.think(0, v, gap, 1), LeftOut.BAD);
            }
            CHECK.due("35: side 2", x.think(0, 2, gap, 1), LeftOut.BAD);
            CHECK.due("35: refused changes nothing", x.think(0, 0, gap, 0) + x.think(0, 1, gap, 0), 0);
        }
    }

    private static void partAtEachGap() {
        for (int gap = 0; gap < 6; gap++) {
            LeftOut x = new LeftOut();
            x.bargain(0, 1, 0);
            for (int one = 0; one <= 5; one++) {
                for (int two = 0; two <= 5; two++) {
                    x.think(0, 0, gap, one);
                    x.think(0, 1, gap, two);
                    boolean is = one != 0 && two != 0 && one != two;
                    CHECK.due("36: " + one + " and " + two + " at " + gap, x.part(0), is ? 1 << gap : 0);
                }
            }
        }
        LeftOut x = five("");
        for (int gap = 0; gap < 6; gap++) {
            x.think(0, 0, gap, 1);
            x.think(0, 1, gap, 5);
        }
        CHECK.due("36: at all", x.part(0), 63);
    }

    private static void farAtEachGap() {
        for (int gap = 0; gap < 6; gap++) {
            for (int v = 0; v <= 5; v++) {
                LeftOut x = five(v == 0 ? "" : gap + "=" + v);
                for (int thought = 0; thought <= 5; thought++) {
                    int far = thought != 0 && thought != v ? 1 << gap : 0;
                    x.think(0, 0, gap, thought);
                    CHECK.due("37: " + thought + ", there is " + v, x.far(0, 0, 0), far);
                    x.think(0, 0, gap, 0);
                    x.think(0, 1, gap, thought);
                    CHECK.due("37: " + thought + " of the other, there is " + v, x.far(0, 0, 1), far);
                    CHECK.due("37: not of the first", x.far(0, 0, 0), 0);
                    x.think(0, 1, gap, 0);
                }
            }
        }
    }

    private static void farFromWhatTurns() {
        LeftOut x = five("");
        Check.rule(x, "L0=1?0=0");
        both(x, 0, 0, 1);
        CHECK.due("37: it turns", x.far(0, 0, 0) + x.far(0, 0, 1), 2);
        CHECK.due("38: the word ends it", x.words(0, 1), 1);
        x.gap(0, 0);
        CHECK.due("37: there is no such gap", x.far(0, 0, 0), 1);
        CHECK.due("38: there is no such gap", x.words(0, 1), LeftOut.NONE);
        x.think(0, 0, 0, 0);
        CHECK.due("37: it did not think of it", x.far(0, 0, 0), 0);
    }

    /** Gap i is filled as thought by all letters but the one that order i leaves out: there it must be said. */
    private static void wordsByEachSetOfOrders() {
        LeftOut x = Check.withValues(5);
        Check.doings(x, 2, 0, 1, 1, 0, 1);
        x.tell(0, 0, true);
        x.tell(1, 0, true);
        Check.doings(x, 3, 2, 3, 0, 1, 2);
        Check.rule(x, "L2=3");
        Check.rule(x, "M3=4");
        x.wipe();
        x.bargain(0, 1, 0);
        String[] orders = {"WCLM", "WDLM", "WDCM", "WDCL"};
        for (int i = 0; i < 4; i++) {
            Check.order(x, i, orders[i]);
            both(x, 0, i, 1 + i);
        }
        for (int set = 1; set < 16; set++) {
            CHECK.due("38: by the orders " + set, x.words(0, set), set);
        }
        for (int none : new int[] {0, 16, 17, 31, -1, LeftOut.NONE, Integer.MIN_VALUE, Integer.MAX_VALUE}) {
            CHECK.due("38: orders " + none, x.words(0, none), LeftOut.BAD);
            CHECK.due("38: orders " + none + " of no bargain", x.words(1, none), LeftOut.UNKNOWN);
        }
        x.think(0, 0, 0, 2);
        for (int set = 1; set < 16; set++) {
            CHECK.due("38: they part, by the orders " + set, x.words(0, set), LeftOut.NONE);
        }
    }

    /** Each set of gaps that both thought of is just what must be said; then one gap brings all the others. */
    private static void wordsAsFewAsCanBe() {
        for (int set = 0; set < 64; set++) {
            LeftOut x = five("");
            for (int gap = 0; gap < 6; gap++) {
                both(x, 0, gap, (set >> gap & 1) * (1 + gap % 5));
            }
            CHECK.due("38: " + set, x.words(0, 15), set);
            int last = 31 - Integer.numberOfLeadingZeros(set);
            for (int gap = 0; gap < last; gap++) {
                if ((set >> gap & 1) == 1) {
                    Check.rule(x, "L" + gap + "=" + (1 + gap % 5) + "?" + last + "=" + (1 + last % 5));
                }
            }
            CHECK.due("38: the last of " + set, x.words(0, 15), set == 0 ? 0 : 1 << last);
        }
    }

    /** Either of two gaps brings the other: the lower one is said, not the higher. */
    private static void wordsOfLikeManyTheLeast() {
        for (int low = 0; low < 6; low++) {
            for (int high = low + 1; high < 6; high++) {
                LeftOut x = five("");
                Check.rule(x, "L" + low + "=2?" + high + "=3");
                Check.rule(x, "L" + high + "=3?" + low + "=2");
                both(x, 0, low, 2);
                both(x, 0, high, 3);
                CHECK.due("38: " + low + " or " + high, x.words(0, 1), 1 << low);
            }
        }
    }

    private static void wordsThereAlready() {
        for (int gap = 0; gap < 6; gap++) {
            LeftOut x = five(gap + "=3");
            Check.rule(x, "B" + gap + "=4");
            both(x, 0, gap, 3);
            CHECK.due("38: said already, but bound", x.words(0, 1), LeftOut.NONE);
            both(x, 0, gap, 4);
            CHECK.due("38: bound as thought", x.words(0, 1), 0);
            x.unrule(0);
            CHECK.due("38: said otherwise", x.words(0, 1), LeftOut.NONE);
            both(x, 0, gap, 3);
            CHECK.due("38: said already", x.words(0, 1), 0);
            Check.order(x, 0, "DM");
            CHECK.due("38: said, but words do not count", x.words(0, 1), LeftOut.NONE);
            CHECK.due("38: by an order by which they do", x.words(0, 2), 0);
        }
    }

    private static void wordsNeverCrossed() {
        LeftOut x = five("XDXCXL");
        Check.rule(x, "L0=1");
        both(x, 0, 0, 1);
        CHECK.due("38: law is crossed out, the word not", x.words(0, 1), 1);
        Check.reword(x, 0, "XDXC");
        CHECK.due("38: law is not crossed out", x.words(0, 1), 0);
    }

    /** What one side alone thought must be so too, and no word can make it so. */
    private static void wordsForBothSides() {
        for (int side = 0; side < 2; side++) {
            for (int gap = 0; gap < 6; gap++) {
                LeftOut x = five("");
                both(x, 0, (gap + 1) % 6, 2);
                x.think(0, side, gap, 3);
                CHECK.due("38: side " + side + " alone thought of " + gap, x.words(0, 8), LeftOut.NONE);
                Check.rule(x, "M" + gap + "=3");
                CHECK.due("38: it is so", x.words(0, 8), 1 << (gap + 1) % 6);
                x.think(0, 1 - side, gap, 1);
                CHECK.due("38: they part", x.words(0, 8), LeftOut.NONE);
            }
        }
    }

    private static void worthOfUpToEight() {
        LeftOut x = Check.withValues(5);
        CHECK.due("39: of no bargains", x.worth(0, 5, 5), 0);
        CHECK.due("40: of no bargains", x.best(0, 5), 1);
        for (int i = 0; i < 8; i++) {
            x.bargain(i % 5, (i + 1) % 5, i % 3);
            CHECK.due("39: not thought of", x.worth(0, 5, 5), i);
            x.think(i, 0, 5, 5);
            CHECK.due("39: thought of by one", x.worth(0, 5, 5), i);
            x.think(i, 1, 5, 4);
            CHECK.due("39: they part", x.worth(0, 5, 5) + x.worth(0, 5, 4) + x.worth(0, 5, 1), i);
            x.think(i, 1, 5, 5);
            CHECK.due("39: both thought the same", x.worth(0, 5, 5), i + 1);
            CHECK.due("39: another thing", x.worth(0, 5, 4), 0);
            CHECK.due("39: at another gap", x.worth(0, 4, 5), 0);
            CHECK.due("40: this one", x.best(0, 5), 5);
        }
        CHECK.due("44: no rule is told", x.count(3), 0);
        CHECK.due("26: nor any gap filled", x.answer(7, 0), 0);
    }

    private static void worthAheadOfAllLaws() {
        for (int rules = 0; rules <= 12; rules += 6) {
            LeftOut x = five("");
            for (int i = 0; i < rules; i++) {
                Check.rule(x, "L3=" + (1 + i % 2));
            }
            both(x, 0, 3, 5);
            CHECK.due("39: ahead of " + rules, x.worth(3, 3, 5), 1);
            Check.order(x, 3, "CML");
            CHECK.due("39: when law comes last", x.worth(3, 3, 5), 1);
            Check.order(x, 3, "WDCM");
            CHECK.due("39: when law does not come", x.worth(3, 3, 5), 0);
            Check.reword(x, 0, "XL");
            CHECK.due("39: when law is crossed out", x.worth(0, 3, 5), 0);
            Check.reword(x, 0, "3=4");
            CHECK.due("39: behind other words", x.worth(0, 3, 5), 0);
            Check.reword(x, 0, "");
            x.hang(3, 0, 1);
            CHECK.due("39: not asked", x.worth(0, 3, 5), 0);
            x.hang(3, LeftOut.NONE, 1);
            x.unrule(11);
            Check.rule(x, "B3=4");
            CHECK.due("39: not ahead of what is bound", x.worth(0, 3, 5), 0);
            CHECK.due("39: bound, whatever the law", x.worth(0, 3, 1), 0);
        }
    }

    private static void worthOfValuesNotThere() {
        for (int k = 0; k <= 5; k++) {
            LeftOut x = five("");
            x.gap(2, k);
            for (int v = 1; v <= 5; v++) {
                both(x, 0, 2, v);
                CHECK.due("39: " + v + " of " + k, x.worth(0, 2, v), v <= k ? 1 : 0);
            }
            Check.rule(x, "L2=1");
            both(x, 0, 2, 1);
            for (int v = 1; v <= 5; v++) {
                boolean asThought = k > 0 && (v == 1 || v > k);
                CHECK.due("39: what is not there is no law", x.worth(0, 2, v), asThought ? 1 : 0);
            }
        }
    }

    private static void bestOfEachNumberOfValues() {
        for (int k = 0; k <= 5; k++) {
            for (int thought = 0; thought <= 5; thought++) {
                LeftOut x = five("");
                x.gap(4, k);
                both(x, 0, 4, thought);
                int want = k == 0 ? LeftOut.NONE : thought >= 1 && thought <= k ? thought : 1;
                CHECK.due("40: " + thought + " of " + k, x.best(0, 4), want);
            }
        }
    }

    private static void bestOfLikeOnesTheLeast() {
        LeftOut x = Check.withValues(5);
        int[] thoughts = {5, 4, 4, 5, 3, 5, 1, 4};
        int[] best = {5, 4, 4, 4, 4, 5, 5, 4};
        for (int i = 0; i < 8; i++) {
            x.bargain(0, 1, 0);
            both(x, i, 0, thoughts[i]);
            CHECK.due("40: of " + (i + 1) + " bargains", x.best(2, 0), best[i]);
        }
        x.gap(0, 3);
        CHECK.due("40: of what is there", x.best(2, 0), 1);
        Check.rule(x, "B0=3");
        CHECK.due("40: all like", x.best(2, 0), 1);
    }

    private static void slotsKeepForThemselves() {
        LeftOut x = new LeftOut();
        Check.doings(x, 2, 0, 1, 0, 0, 1);
        x.tell(4, 2, true);
        CHECK.due("41: the first", x.keep(0), 2);
        Check.doings(x, 1, 0, 1, 0, 0, 2);
        x.tell(4, 2, false);
        x.tell(3, 1, true);
        CHECK.due("41: the second", x.keep(1), 3);
        for (int i = 0; i < 3; i++) {
            CHECK.due("42: the first", x.again(0), 2);
            CHECK.due("10: as in the first", x.before(0, 1, 0), 1);
            CHECK.due("9: as in the first", x.knows(4, 2) * 10 + x.knows(3, 1), 10);
            Check.doings(x, 1, 0, 1, 0, 0, 3);
            x.tell(4, 2, false);
            x.tell(2, 0, true);
            CHECK.due("42: the second", x.again(1), 3);
            CHECK.due("10: as in the second", x.before(0, 1, 0), 0);
            CHECK.due("9: as in the second", x.knows(4, 2) * 10 + x.knows(3, 1) + x.knows(2, 0) * 100, 1);
            x.undo();
            x.undo();
        }
        CHECK.due("41: kept over", x.keep(0), 1);
        CHECK.due("42: the second stays", x.again(1), 3);
        CHECK.due("42: the new first", x.again(0), 1);
    }

    private static void slotsKeep24() {
        LeftOut x = new LeftOut();
        CHECK.due("41: none", x.keep(1), 0);
        for (int i = 0; i < 24; i++) {
            x.doing(i % 5, (i + 1) % 5, i % 3, i % 6, 1 + i % 5, i % 4 == 3);
        }
        CHECK.due("41: all", x.keep(0), 24);
        CHECK.due("42: none", x.again(1), 0);
        CHECK.due("44: none", x.count(1), 0);
        CHECK.due("6: none", x.undo(), LeftOut.LATE);
        for (int i = 0; i < 24; i++) {
            CHECK.due("5: others", x.doing((i + 1) % 5, (i + 3) % 5, (i + 1) % 3, (i + 1) % 6, 1 + i % 2, i % 4 != 3), i);
        }
        x.keep(1);
        CHECK.due("42: all", x.again(0), 24);
        CHECK.due("5: full again", x.doing(0, 1, 0, 0, 1, false), LeftOut.FULL);
        x.term(0, 1);
        for (int i = 23; i >= 0; i--) {
            int want = i % 4 == 3 ? 0 : 1 + i % 5;
            CHECK.due("42: doing " + i, x.before((i + 1) % 5, i % 5, i % 6), want);
            if (i == 23 || i < 10 && i % 2 == 0) {
                whoKnows(x, i + 1);
            }
            x.undo();
        }
        CHECK.due("42: the slot stays", x.again(0), 24);
    }

    /** Of so many doings the i-th is in trade i and of the people i and i + 1 (all counted round and round). */
    private static void whoKnows(LeftOut x, int doings) {
        for (int person = 0; person < 5; person++) {
            for (int trade = 0; trade < 3; trade++) {
                int is = 0;
                for (int i = trade; i < doings; i += 3) {
                    is = i % 5 == person || (i + 1) % 5 == person ? 1 : is;
                }
                CHECK.due("42: " + person + " knows " + trade + " by " + doings, x.knows(person, trade), is);
            }
        }
    }

    private static void slotsNotKept() {
        for (int slot = 0; slot < 2; slot++) {
            LeftOut x = new LeftOut();
            CHECK.due("42: none were", x.again(slot), LeftOut.LATE);
            CHECK.due("43: none were", x.since(3, slot), LeftOut.LATE);
            CHECK.due("43: no order comes first", x.since(4, slot), LeftOut.UNKNOWN);
            x.keep(1 - slot);
            CHECK.due("42: the other was", x.again(slot), LeftOut.LATE);
            CHECK.due("43: the other was", x.since(0, slot), LeftOut.LATE);
            CHECK.due("41: nothing is kept too", x.keep(slot), 0);
            CHECK.due("42: nothing is kept too", x.again(slot), 0);
            CHECK.due("43: nothing is kept too", x.since(0, slot), 0);
            for (int none : new int[] {-1, 2, LeftOut.NONE, Integer.MIN_VALUE, Integer.MAX_VALUE}) {
                CHECK.due("41: no slot " + none, x.keep(none), LeftOut.UNKNOWN);
                CHECK.due("42: no slot " + none, x.again(none), LeftOut.UNKNOWN);
                CHECK.due("43: no slot " + none, x.since(0, none), LeftOut.UNKNOWN);
            }
        }
    }

    private static void sinceOfUpToEight() {
        LeftOut x = Check.withValues(5);
        x.keep(0);
        Check.doings(x, 2, 1, 0, 2, 5, 5);
        x.keep(1);
        for (int i = 0; i < 8; i++) {
            CHECK.due("43: of " + i, x.since(0, 0), i);
            CHECK.due("43: as it is", x.since(0, 1), 0);
            x.bargain(i % 2, 1 - i % 2, i % 3);
        }
        CHECK.due("43: of all", x.since(0, 0), 8);
        Check.reword(x, 3, "XD");
        Check.reword(x, 4, "5=5");
        Check.reword(x, 5, "5=1");
        CHECK.due("43: some are as they were", x.since(0, 0), 5);
        Check.order(x, 3, "DW");
        CHECK.due("43: by another order", x.since(3, 0), 6);
        x.again(0);
        CHECK.due("43: the other way round", x.since(3, 1), 6);
        x.gap(5, 4);
        CHECK.due("43: a value that is not there", x.since(3, 1), 0);
        CHECK.due("44: no doings", x.count(1), 0);
    }

    private static void countAtTheEdges() {
        LeftOut x = new LeftOut();
        for (int gap = 0; gap < 6; gap++) {
            x.gap(gap, 1 + gap % 5);
            CHECK.due("44: gaps", x.count(0), gap + 1);
        }
        x.gap(0, 0);
        CHECK.due("44: one gap less", x.count(0), 5);
        Check.doings(x, 24, 0, 1, 0, 0, 1);
        CHECK.due("44: doings", x.count(1), 24);
        for (int i = 0; i < 12; i++) {
            Check.rule(x, "L0=1");
        }
        CHECK.due("44: rules", x.count(3), 12);
        for (int i = 0; i < 8; i++) {
            Check.bargain(x, 0, 1, 0, "0=11=12=13=14=15=1XDXCXL");
        }
        CHECK.due("44: bytes", x.count(2), 24);
        CHECK.due("44: bargains", x.count(4), 8);
        for (int none : new int[] {-1, 5, LeftOut.NONE, Integer.MIN_VALUE, Integer.MAX_VALUE}) {
            CHECK.due("44: no such thing as " + none, x.count(none), LeftOut.BAD);
        }
    }

    private static void theLast512th() {
        LeftOut x = new LeftOut();
        x.gap(0, 5);
        x.bargain(0, 1, 0);
        x.keep(0);
        for (int i = 4; i < 512; i += 2) {
            CHECK.due("5: the first, call " + i, x.doing(0, 1, 0, 0, 3, false), 0);
            CHECK.due("42: none, call " + (i + 1), x.again(0), 0);
        }
        CHECK.due("26: call 512", x.answer(0, 0), 0);
    }
}
