/** Promises 3 (cost), 12 (plan) and 13 (planned). */
public final class PlanTest {
    private static final Expect E = new Expect("PlanTest");
    private static final long MOST = 1000000000L;

    public static void main(String[] args) {
        costs();
        costRefuses();
        nearEnoughIsExact();
        equalCostsGiveTheFirstFewer();
        cheapestOfFour();
        strataThatDoNotCount();
        refusedPlansKeepTheOld();
        noSuchPlanHoldsNone();
        heldPlanStays();
        largeFigures();
        E.end();
    }

    /**
     * Strata of the same size with two bags each, one of 0 and one of these grams: spread grams * grams / 2.
     * The size is small, so that a bound over 1000 can come as near to a plan's spread as can be.
     */
    private static StratumCounts pairs(long... grams) {
        StratumCounts x = new StratumCounts(0);
        for (int s = 0; s < grams.length; s++) {
            E.same("stratum", x.stratum(1), s);
            E.bagOf(x, s, 0);
            E.bagOf(x, s, grams[s]);
        }
        return x;
    }

    private static void costs() {
        StratumCounts x = pairs(1, 1);
        E.same("plan with first costs", x.plan(0, 1, 1), 2);
        E.yes("cost(0, 100000)", x.cost(0, 100000));
        E.same("plan", x.plan(0, 1, 1), 100001);
        E.yes("cost(1, 7)", x.cost(1, 7));
        E.yes("cost(0, 1)", x.cost(0, 1));
        E.same("plan", x.plan(0, 1, 1), 8);
        E.yes("cost(0, 100000)", x.cost(0, 100000));
        E.yes("cost(1, 100000)", x.cost(1, 100000));
        // Six bags each, all at the highest cost: (1/4) * (1/2) * (2/6) is 1/24.
        E.same("the dearest plan of two", x.plan(0, 42, 1000), 1200000);
        E.planned(x, 6, 6);
        E.none("just not enough", x.plan(0, 41, 1000));
    }

    private static void costRefuses() {
        StratumCounts x = pairs(1, 1);
        E.yes("cost(0, 3)", x.cost(0, 3));
        for (long cents : new long[] {0, -1, 100001, 1L << 32 | 5, Long.MIN_VALUE, Long.MAX_VALUE}) {
            E.no("cost(0, " + cents + ")", x.cost(0, cents));
        }
        for (int stratum : new int[] {-1, 2, 4, Integer.MIN_VALUE, Integer.MAX_VALUE}) {
            E.no("cost(" + stratum + ", 5)", x.cost(stratum, 5));
        }
        E.same("plan", x.plan(0, 1, 1), 4);
        E.yes("joined(0, 1)", x.joined(0, 1));
        E.no("cost of one that is gone", x.cost(1, 5));
        E.same("plan", x.plan(0, 1, 1), 3);
    }

    private static void nearEnoughIsExact() {
        // One stratum of the spread 18: plans are 18, 9, 6, 9/2, 18/5, 3.
        StratumCounts x = pairs(6);
        E.same("at most 18", x.plan(0, 18, 1), 1);
        E.same("at most 17.999", x.plan(0, 17999, 1000), 2);
        E.same("at most 9", x.plan(0, 9, 1), 2);
        E.same("at most 6", x.plan(0, 6, 1), 3);
        E.same("at most 9/2", x.plan(0, 9, 2), 4);
        E.same("at most 4499/1000", x.plan(0, 4499, 1000), 5);
        E.same("at most 18/5", x.plan(0, 18, 5), 5);
        E.same("at most 3", x.plan(0, 3, 1), 6);
        E.same("at most 3000/1000", x.plan(0, 3000, 1000), 6);
        E.planned(x, 6, StratumCounts.NONE, StratumCounts.NONE, StratumCounts.NONE);
        E.none("at most 2999/1000", x.plan(0, 2999, 1000));
        E.none("at most 0", x.plan(0, 0, 1));
        E.same("at most 0 of a kind that does not spread", x.plan(1, 0, 1), 1);
    }

    private static void equalCostsGiveTheFirstFewer() {
        // (1/4) * (8/a + 8/b): 3 needs 1/a + 1/b <= 3/2, for three bags in one of two ways.
        StratumCounts x = pairs(4, 4);
        E.same("plan", x.plan(0, 3, 1), 3);
        E.planned(x, 1, 2);
        // 8/a + 25/(2b) <= 16, with bags of 1 and 2 cents: (1, 2) and (3, 1) cost 5, nothing cheaper is near enough.
        StratumCounts z = pairs(4, 5);
        E.yes("cost(1, 2)", z.cost(1, 2));
        E.same("plan", z.plan(0, 4, 1), 5);
        E.planned(z, 1, 2);
        StratumCounts y = pairs(0, 4, 4, 4);
        // (1/16) * 8 * (1/b + 1/c + 1/d) <= 5/4 needs 5/2.
        E.same("plan", y.plan(0, 5, 4), 5);
        E.planned(y, 1, 1, 1, 2);
    }

    private static void cheapestOfFour() {
        StratumCounts x = pairs(10, 20, 30, 40);
        E.yes("cost", x.cost(0, 9));
        E.yes("cost", x.cost(1, 4));
        E.yes("cost", x.cost(2, 25));
        E.yes("cost", x.cost(3, 16));
        // The spreads are 50, 200, 450, 800, over 16: one bag each makes 93.75.
        E.same("one each", x.plan(0, 94, 1), 54);
        E.planned(x, 1, 1, 1, 1);
        E.same("half", x.plan(0, 93750 / 2, 1000), cheapest(new long[] {50, 200, 450, 800},
            new long[] {9, 4, 25, 16}, 46.875));
        E.same("all have six", x.plan(0, 15625, 1000), 6 * 54);
        E.planned(x, 6, 6, 6, 6);
        E.none("more than six", x.plan(0, 15624, 1000));
    }

    private static long cheapest(long[] spreads, long[] costs, double most) {
        long best = Long.MAX_VALUE;
        for (int a = 1; a <= 6; a++) {
            for (int b = 1; b <= 6; b++) {
                for (int c = 1; c <= 6; c++) {
                    for (int d = 1; d <= 6; d++) {
                        double spread = (spreads[0] / (double) a + spreads[1] / (double) b
                            + spreads[2] / (double) c + spreads[3] / (double) d) / 16;
                        long cost = a * costs[0] + b * costs[1] + c * costs[2] + d * costs[3];
                        best = spread <= most && cost < best ? cost : best;
                    }
                }
            }
        }
        return best;
    }

    private static void strataThatDoNotCount() {
        StratumCounts x = pairs(4, 4);
        E.same("stratum without bags", x.stratum(90), 2);
        E.yes("cost(2, 1000)", x.cost(2, 1000));
        E.same("plan", x.plan(0, 3, 1), 3);
        E.planned(x, 1, 2, 0, StratumCounts.NONE);
        E.same("a stratum after the plan", x.stratum(5), 3);
        E.planned(x, 1, 2, 0, 0);
        E.yes("missing(0)", x.missing(0));
        E.yes("missing(1)", x.missing(1));
        E.same("plan without the first stratum", x.plan(0, 4, 1), 2);
        E.planned(x, 0, 2, 0, 0);
        E.yes("joined(2, 1)", x.joined(2, 1));
        E.same("plan of the joined stratum", x.plan(0, 4, 1), 2000);
        E.planned(x, 0, 0, 2, 0);
        for (int stratum : new int[] {-1, 4, Integer.MIN_VALUE, Integer.MAX_VALUE}) {
            E.none("planned(" + stratum + ")", x.planned(stratum));
        }
    }

    private static void refusedPlansKeepTheOld() {
        StratumCounts x = pairs(4, 4);
        E.same("plan", x.plan(0, 3, 1), 3);
        for (int kind : new int[] {-1, 3, Integer.MIN_VALUE, Integer.MAX_VALUE}) {
            E.none("kind " + kind, x.plan(kind, 3, 1));
        }
        for (long above : new long[] {-1, MOST + 1, Long.MIN_VALUE, Long.MAX_VALUE}) {
            E.none("above " + above, x.plan(0, above, 1));
        }
        for (long below : new long[] {0, -1, 1001, 1L << 32 | 1, Long.MIN_VALUE, Long.MAX_VALUE}) {
            E.none("below " + below, x.plan(0, 3, below));
        }
        E.planned(x, 1, 2);
        E.yes("missing(0)", x.missing(0));
        E.none("a stratum has one bag only", x.plan(0, MOST, 1));
        E.planned(x, 1, 2);
        for (int bag = 1; bag < 4; bag++) {
            E.yes("missing", x.missing(bag));
        }
        E.none("no stratum counts", x.plan(0, MOST, 1));
        E.planned(x, 1, 2);
        StratumCounts y = pairs(4, 4);
        E.same("above at most", y.plan(0, MOST, 1), 2);
        E.same("below at most", y.plan(0, MOST, 1000), 2);
    }

    private static void noSuchPlanHoldsNone() {
        StratumCounts x = pairs(4, 4);
        E.same("plan", x.plan(0, 3, 1), 3);
        E.none("no such plan", x.plan(0, 0, 1));
        E.none("planned(0)", x.planned(0));
        E.none("planned(1)", x.planned(1));
        E.none("a wrong plan does not bring it back", x.plan(0, -1, 1));
        E.none("planned(0)", x.planned(0));
        E.same("plan", x.plan(0, 4, 1), 2);
        E.planned(x, 1, 1);
    }

    private static void heldPlanStays() {
        StratumCounts x = pairs(4, 4);
        E.same("plan", x.plan(0, 3, 1), 3);
        x.weight(0, 0, 4);
        x.cost(0, 50);
        x.missing(1);
        x.draw(0, 1);
        E.yes("joined(0, 1)", x.joined(0, 1));
        E.planned(x, 1, 2);
    }

    /** Five and seven bags as far apart as grams may be: products of all figures would not fit a long. */
    private static void largeFigures() {
        StratumCounts x = new StratumCounts(0);
        x.stratum(100);
        x.stratum(100);
        for (int i = 0; i < 12; i++) {
            E.bagOf(x, i < 5 ? 0 : 1, i % 2 == 0 ? 10000 : 0);
        }
        // The spreads are 30000000 and 200000000 / 7: six bags of each make 2440476.19.
        E.same("enough", x.plan(0, 2440477, 1), 12);
        E.none("just not enough", x.plan(0, 2440476, 1));
        E.same("enough, over 409", x.plan(0, MOST, 409), 12);
        E.none("not enough, over 410", x.plan(0, MOST, 410));
        for (long below = 500; below <= 1000; below++) {
            E.none("not enough, over " + below, x.plan(0, MOST, below));
        }
        // One bag of each makes 14642857.14.
        E.same("one of each", x.plan(0, MOST, 68), 2);
        E.same("not one of each", x.plan(0, MOST, 69), 3);
    }
}
