/** Promise 1 (a new object): the ends of its seed, and that it is empty. */
public final class Promise01Test {
    private static final Bounds T = new Bounds("Promise 1");

    public static void main(String[] args) {
        seedsAtTheirEnds();
        noStrata();
        noBags();
        noPlan();
        T.end();
    }

    /** What is due here was worked out by another program, with whole numbers of any size. */
    private static void seedsAtTheirEnds() {
        T.test("The seed of all draws.");
        drawsOf(Long.MIN_VALUE, new long[] {31, 50, 35, 56}, new long[] {9, 2, 1});
        drawsOf(-1, new long[] {88, 6, 89, 28}, new long[] {4, 6, 7});
        drawsOf(0, new long[] {7, 49, 57, 23}, new long[] {5, 3, 2});
        drawsOf(1, new long[] {74, 94, 24, 18}, new long[] {4, 9, 0});
        drawsOf(Long.MAX_VALUE, new long[] {64, 5, 67, 61}, new long[] {0, 5, 7});
    }

    private static void drawsOf(long seed, long[] first, long[] second) {
        T.anew(seed);
        T.given("stratum(100)", "stratum(10)");
        T.is("draw(0, 4)", 4);
        T.is("draw(1, 3)", 3);
        T.drawn(0, first);
        T.drawn(1, second);
    }

    private static void noStrata() {
        T.test("No strata");
        T.is("counting()", 0);
        T.refuses("cost(0, 1)", "bag(0)", "draw(0, 0)", "draw(0, 1)", "drawn(0, 0)", "joined(0, 0)", "joined(0, 1)");
        for (int kind = 0; kind < 3; kind++) {
            T.refuses("mean(" + kind + ", 0)", "mean(" + kind + ", 1)", "spread(" + kind + ", 0)",
                "spread(" + kind + ", 1)", "plan(" + kind + ", 1000000000, 1)");
        }
        T.is("stratum(100)", 0);
    }

    private static void noBags() {
        T.test("no bags");
        T.refuses("weight(0, 0, 0)", "year(0, 0)", "missing(0)", "repeat(0, 0, 0)");
        for (int kind = 0; kind < 3; kind++) {
            T.refuses("compared(" + kind + ", 0)", "compared(" + kind + ", 1)", "error(" + kind + ", 0)",
                "error(" + kind + ", 1)");
        }
        T.given("stratum(1)");
        T.is("counting()", 0);
        T.refuses("weight(0, 0, 0)", "year(0, 0)", "missing(0)", "repeat(0, 0, 0)", "mean(0, 0)", "spread(0, 0)");
        T.is("bag(0)", 0);
        T.is("repeat(0, 0, 0)", 1);
    }

    private static void noPlan() {
        T.test("no plan");
        T.refuses("planned(0)");
        T.given("stratum(1)", "bag(0)", "bag(0)");
        T.refuses("planned(0)");
        T.is("plan(0, 0, 1)", 1);
        T.is("planned(0)", 1);
    }
}
