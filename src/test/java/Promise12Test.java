/** Promise 12 (plan): its bounds, which plans are near enough, which of them is found, and what is held after. */
public final class Promise12Test {
    private static final Bounds T = new Bounds("Promise 12");

    public static void main(String[] args) {
        cheapestOfFour();
        aboveBounds();
        belowBounds();
        kinds();
        atMostIsExact();
        oneToSixBags();
        cheapestAndDearest();
        firstStratumFewer();
        firstStratumForWhichTheyDiffer();
        noSpreadWithoutBags();
        noSpreadWithOneBagOnly();
        noSuchPlan();
        fiveAndSevenBags();
        fourOfTheGreatestSize();
        T.end();
    }

    /** Strata of size 1, each with a bag of 0 and one of these grams, so of the spread grams * grams / 2. */
    private static void givenPairs(long... grams) {
        for (int s = 0; s < grams.length; s++) {
            T.given("stratum(1)");
            T.givenBags(2 * s, s, 0, grams[s]);
        }
    }

    private static void cheapestOfFour() {
        T.test("Finds the cheapest plan");
        givenPairs(10, 20, 30, 40);
        T.yes("cost(0, 9)", "cost(1, 4)", "cost(2, 25)", "cost(3, 16)");
        // Spreads of 50, 200, 450 and 800, over 16: one bag each makes 93.75.
        T.is("plan(0, 94, 1)", 54);
        T.planned(1, 1, 1, 1);
        T.is("plan(0, 46875, 1000)", cheapest(16 * 46.875));
        T.is("plan(0, 15625, 1000)", 6 * 54);
        T.planned(6, 6, 6, 6);
        T.is("plan(0, 15624, 1000)", -1);
    }

    private static long cheapest(double most) {
        long best = Long.MAX_VALUE;
        for (int plan = 0; plan < 1296; plan++) {
            int a = plan % 6 + 1;
            int b = plan / 6 % 6 + 1;
            int c = plan / 36 % 6 + 1;
            int d = plan / 216 + 1;
            long cost = 9 * a + 4 * b + 25 * c + 16 * d;
            if (50.0 / a + 200.0 / b + 450.0 / c + 800.0 / d <= most && cost < best) {
                best = cost;
            }
        }
        return best;
    }

    private static void aboveBounds() {
        T.test("NONE when these are not such (the plan that was held stays): above, 0 .. 1000000000");
        givenPairs(4, 4);
        T.is("plan(0, 3, 1)", 3);
        T.refuses("plan(0, -1, 1)", "plan(0, 1000000001, 1)", "plan(0, min, 1)", "plan(0, max, 1)");
        T.refuses("plan(0, -1, 1000)", "plan(0, 1000000001, 1000)", "plan(1, -1, 1)");
        T.planned(1, 2);
        T.is("plan(0, 1000000000, 1)", 2);
        T.planned(1, 1);
        T.is("plan(1, 0, 1)", 2);
    }

    private static void belowBounds() {
        T.test("NONE when these are not such (the plan that was held stays): below, 1 .. 1000");
        givenPairs(4, 4);
        T.is("plan(0, 3, 1)", 3);
        // The last one is 1 in its lower 32 bits.
        T.refuses("plan(0, 3, 0)", "plan(0, 3, -1)", "plan(0, 3, 1001)", "plan(0, 3, min)", "plan(0, 3, max)",
            "plan(0, 3, 4294967297)");
        T.refuses("plan(0, 0, 0)", "plan(1, 0, 0)", "plan(0, -3, -1)", "plan(0, 1000000000, 1001)");
        T.planned(1, 2);
        T.is("plan(0, 4, 1)", 2);
        T.is("plan(0, 3000, 1000)", 3);
        T.is("plan(0, 2999, 1000)", 4);
        T.is("plan(0, 1000000000, 1000)", 2);
    }

    private static void kinds() {
        T.test("NONE when these are not such (the plan that was held stays): the kind");
        T.given(States.ORDINARY);
        T.refuses("plan(-1, 5, 1)", "plan(3, 5, 1)", "plan(4, 5, 1)", "plan(min, 5, 1)", "plan(max, 5, 1)");
        T.anew(0);
        givenPairs(0);
        T.yes("weight(1, 1, 2)", "weight(1, 2, 4)");
        T.is("plan(0, 0, 1)", 1);
        T.is("plan(1, 1, 1)", 2);
        T.is("plan(2, 2, 1)", 4);
        T.refuses("plan(-1, 2, 1)", "plan(3, 2, 1)");
        T.planned(4);
    }

    private static void atMostIsExact() {
        T.test("whose spread of a kind is at most above / below");
        // Spreads of 18 over 1 .. 6 bags.
        givenPairs(6);
        T.is("plan(0, 18001, 1000)", 1);
        T.is("plan(0, 18, 1)", 1);
        T.is("plan(0, 17999, 1000)", 2);
        T.is("plan(0, 9, 1)", 2);
        T.is("plan(0, 8999, 1000)", 3);
        T.is("plan(0, 6, 1)", 3);
        T.is("plan(0, 5999, 1000)", 4);
        T.is("plan(0, 9, 2)", 4);
        T.is("plan(0, 4499, 1000)", 5);
        T.is("plan(0, 18, 5)", 5);
        T.is("plan(0, 3599, 1000)", 6);
        T.is("plan(0, 3, 1)", 6);
        T.is("plan(0, 3000, 1000)", 6);
        T.is("plan(0, 2999, 1000)", -1);
    }

    private static void oneToSixBags() {
        T.test("A plan gives each stratum that counts 1 .. 6 bags");
        givenPairs(0, 6);
        T.is("plan(1, 0, 1)", 2);
        T.planned(1, 1);
        // A quarter of 18, over the second one's bags: the first one needs none, and still gets one.
        T.is("plan(0, 750, 1000)", 7);
        T.planned(1, 6);
        T.is("plan(0, 749, 1000)", -1);
    }

    private static void cheapestAndDearest() {
        T.test("Answers its cost: the least and the greatest");
        T.given("stratum(1)", "bag(0)", "bag(0)");
        T.is("plan(0, 0, 1)", 1);
        T.anew(0);
        givenPairs(6, 6, 6, 6);
        T.yes("cost(0, 100000)", "cost(1, 100000)", "cost(2, 100000)", "cost(3, 100000)");
        // A quarter of 18 over six bags each.
        T.is("plan(0, 750, 1000)", 2400000);
        T.planned(6, 6, 6, 6);
        T.is("plan(0, 749, 1000)", -1);
        T.is("plan(0, 1000000000, 1)", 400000);
        T.planned(1, 1, 1, 1);
    }

    private static void firstStratumFewer() {
        T.test("of those the one that gives the first stratum fewer bags");
        // 4 spreads of 8 over 4 bags, 2 and 1 in either order.
        givenPairs(4, 4);
        T.is("plan(0, 3, 1)", 3);
        T.planned(1, 2);
        // 8 / a + 25 / 2b is at most 16 with 1 and 2, also with 3 and 1, both for 5 cents.
        T.anew(0);
        givenPairs(4, 5);
        T.yes("cost(1, 2)");
        T.is("plan(0, 4, 1)", 5);
        T.planned(1, 2);
        // The cheaper one is taken though it gives the first stratum more: 3 and 1 for 6 cents, not 1 and 2 for 7.
        T.yes("cost(1, 3)");
        T.is("plan(0, 4, 1)", 6);
        T.planned(3, 1);
    }

    private static void firstStratumForWhichTheyDiffer() {
        T.test("the first stratum (for which they differ)");
        // The first one never differs; of the other three one gets two, and that is the last one.
        givenPairs(0, 4, 4, 4);
        T.is("plan(0, 5, 4)", 5);
        T.planned(1, 1, 1, 2);
        T.is("plan(0, 1, 1)", 6);
        T.planned(1, 1, 2, 2);
    }

    private static void noSpreadWithoutBags() {
        T.test("NONE when the spread has none: no stratum counts");
        T.refuses("plan(0, 1000000000, 1)");
        T.given("stratum(1)");
        T.refuses("plan(0, 1000000000, 1)", "plan(0, 0, 1)");
        T.givenBags(0, 0, 0, 4);
        T.is("plan(0, 4, 1)", 2);
        T.yes("missing(0)", "missing(1)");
        T.refuses("plan(0, 1000000000, 1)", "plan(0, 0, 1)");
        T.planned(2);
    }

    private static void noSpreadWithOneBagOnly() {
        T.test("NONE when the spread has none: a stratum has one bag only");
        givenPairs(4, 4);
        T.is("plan(0, 3, 1)", 3);
        T.yes("missing(2)");
        T.refuses("plan(0, 1000000000, 1)", "plan(0, 0, 1)", "plan(1, 0, 1)");
        T.planned(1, 2);
        T.given("bag(1)");
        T.is("plan(0, 1000000000, 1)", 2);
        T.planned(1, 1);
    }

    private static void noSuchPlan() {
        T.test("NONE when there is no such plan (then none is held)");
        givenPairs(4, 4);
        T.is("plan(0, 667, 1000)", 12);
        T.planned(6, 6);
        T.is("plan(0, 666, 1000)", -1);
        T.refuses("planned(0)", "planned(1)");
        T.refuses("plan(0, -1, 1)", "plan(3, 1, 1)");
        T.is("plan(0, 0, 1000)", -1);
        T.is("plan(0, 4, 1)", 2);
        T.planned(1, 1);
        T.is("plan(0, 0, 1)", -1);
        T.refuses("planned(0)", "planned(1)");
    }

    /** Six bags of each make 2440476 + 4/21, one of each 14642857 + 1/7. */
    private static void fiveAndSevenBags() {
        T.test("at most above / below: exact when the figures are large");
        T.given("stratum(100)", "stratum(100)");
        T.givenBags(0, 0, 0, 0, 10000, 10000, 10000);
        T.givenBags(5, 1, 0, 0, 0, 0, 10000, 10000, 10000);
        T.is("plan(0, 2440477, 1)", 12);
        T.planned(6, 6);
        T.is("plan(0, 2440476, 1)", -1);
        T.is("plan(0, 12202381, 5)", 12);
        T.is("plan(0, 12202380, 5)", -1);
        T.is("plan(0, 51250000, 21)", 12);
        T.is("plan(0, 51249999, 21)", -1);
        T.is("plan(0, 1000000000, 409)", 12);
        T.is("plan(0, 1000000000, 410)", -1);
        T.is("plan(0, 1000000000, 1000)", -1);
        T.is("plan(0, 102500000, 7)", 2);
        T.is("plan(0, 102499999, 7)", 3);
        T.is("plan(0, 1000000000, 68)", 2);
        T.is("plan(0, 1000000000, 69)", 3);
        T.is("plan(0, 1000000000, 1)", 2);
        T.is("plan(0, 999999999, 1)", 2);
    }

    /** Three bags each, of the spread 100000000 / 3: six bags of each make 1388888 + 8/9, one of each 8333333 + 1/3. */
    private static void fourOfTheGreatestSize() {
        T.test("at most above / below: exact with four strata as large as can be");
        for (int s = 0; s < 4; s++) {
            T.given("stratum(100)");
            T.givenBags(3 * s, s, 0, 0, 10000);
        }
        T.is("plan(0, 12500000, 9)", 24);
        T.planned(6, 6, 6, 6);
        T.is("plan(0, 12499999, 9)", -1);
        T.is("plan(0, 1000000000, 720)", 24);
        T.is("plan(0, 999999999, 720)", -1);
        T.is("plan(0, 25000000, 3)", 4);
        T.is("plan(0, 24999999, 3)", 5);
        T.planned(1, 1, 1, 2);
        T.is("plan(0, 1000000000, 120)", 4);
        T.is("plan(0, 999999999, 120)", 5);
        T.is("plan(0, 1000000000, 1)", 4);
    }
}
