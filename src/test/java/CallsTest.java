import java.util.Random;

/** "An object is used for at most 512 calls after it has been made": promises 1 to 18 hold up to the last of them. */
public final class CallsTest {
    private static final Bounds T = new Bounds("What it is");
    private static final int[] NUMBERS = {0, 1, 2, 3, 11, -1, 4, 12, 100, 101, Integer.MIN_VALUE, Integer.MAX_VALUE};
    private static final long[] AMOUNTS = {0, 1, 1000, 10000, 100000, 1000000000L, -1, 10001, Long.MIN_VALUE,
        Long.MAX_VALUE};

    public static void main(String[] args) {
        lastCallAfterDraws();
        lastCallAfterRefusals();
        lastCallAfterPlans();
        laterCallsEnd();
        T.end();
    }

    private static void lastCallAfterDraws() {
        T.test("at most 512 calls: the last one, after 510 draws (promise 8)");
        T.is("stratum(100)", 0);
        long seed = 0;
        for (int i = 0; i < 510; i++) {
            T.is("draw(0, 1)", 1);
            seed = seed * 6364136223846793005L + 1442695040888963407L;
        }
        T.is("drawn(0, 0)", (seed >>> 33) % 100);
    }

    private static void lastCallAfterRefusals() {
        T.test("at most 512 calls: the last one, after 511 that were refused (promise 2)");
        for (int i = 0; i < 511; i++) {
            T.is("stratum(101)", -1);
        }
        T.is("stratum(100)", 0);
    }

    private static void lastCallAfterPlans() {
        T.test("at most 512 calls: the last one, after 500 plans of four strata (promise 12)");
        T.given("stratum(1)", "stratum(2)", "stratum(3)", "stratum(4)");
        for (int bag = 0; bag < 8; bag++) {
            T.given("bag(" + bag % 4 + ")");
        }
        for (int i = 0; i < 499; i++) {
            T.is("plan(0, 0, 1)", 4);
        }
        T.is("planned(3)", 1);
    }

    /** What later calls answer is free, but they too must end, and throw nothing (LANGUAGE.md, rule 7). */
    private static void laterCallsEnd() {
        T.test("what later calls answer is free");
        Random random = new Random(513);
        StratumCounts x = new StratumCounts(0);
        int made = 0;
        for (int i = 0; i < 20 * Run.MOST_CALLS; i++) {
            any(x, i % 17, random);
            made++;
        }
        T.holds("all of them ended", made == 20 * Run.MOST_CALLS);
    }

    private static int number(Random random) {
        return NUMBERS[random.nextInt(NUMBERS.length)];
    }

    private static long amount(Random random) {
        return AMOUNTS[random.nextInt(AMOUNTS.length)];
    }

    private static void any(StratumCounts x, int which, Random random) {
        switch (which) {
            case 0 -> x.stratum(number(random));
            case 1 -> x.cost(number(random), amount(random));
            case 2 -> x.bag(number(random));
            case 3 -> x.weight(number(random), number(random), amount(random));
            case 4 -> x.year(number(random), number(random));
            case 5 -> x.missing(number(random));
            case 6 -> x.draw(number(random), number(random));
            case 7 -> x.drawn(number(random), number(random));
            case 8 -> x.mean(number(random), number(random));
            case 9 -> x.spread(number(random), number(random));
            case 10 -> x.plan(number(random), amount(random), amount(random));
            case 11 -> x.planned(number(random));
            case 12 -> x.compared(number(random), number(random));
            case 13 -> x.joined(number(random), number(random));
            case 14 -> x.repeat(number(random), number(random), amount(random));
            case 15 -> x.error(number(random), number(random));
            default -> x.counting();
        }
    }
}
