import java.math.BigInteger;

/** Counts the answers that are not as due, prints them, and ends the test with exit code 1 if there was one. */
final class Expect {
    private final String test;
    private int asked;
    private int wrong;

    Expect(String test) {
        this.test = test;
    }

    void same(String call, long got, long due) {
        asked++;
        if (got != due) {
            wrong++;
            System.out.println(test + ": " + call + " answered " + got + ", due is " + due);
        }
    }

    void yes(String call, boolean got) {
        same(call, got ? 1 : 0, 1);
    }

    void no(String call, boolean got) {
        same(call, got ? 1 : 0, 0);
    }

    void none(String call, long got) {
        same(call, got, StratumCounts.NONE);
    }

    void fraction(String call, long gotAbove, long gotBelow, long above, long below) {
        same(call + " above", gotAbove, above);
        same(call + " below", gotBelow, below);
        BigInteger shared = BigInteger.valueOf(above).gcd(BigInteger.valueOf(below));
        if (!shared.equals(BigInteger.ONE)) {
            throw new IllegalStateException("the test's own fraction is not in lowest terms: " + call);
        }
    }

    void mean(StratumCounts x, int kind, long above, long below) {
        fraction("mean of " + kind, x.mean(kind, 0), x.mean(kind, 1), above, below);
    }

    void spread(StratumCounts x, int kind, long above, long below) {
        fraction("spread of " + kind, x.spread(kind, 0), x.spread(kind, 1), above, below);
    }

    void error(StratumCounts x, int kind, long above, long below) {
        fraction("error of " + kind, x.error(kind, 0), x.error(kind, 1), above, below);
    }

    void compared(StratumCounts x, int kind, long far, long all) {
        same("compared ways that are as far of " + kind, x.compared(kind, 0), far);
        same("compared ways of " + kind, x.compared(kind, 1), all);
    }

    void planned(StratumCounts x, long... due) {
        for (int s = 0; s < due.length; s++) {
            same("planned(" + s + ")", x.planned(s), due[s]);
        }
    }

    /** One more bag of a stratum, with grams of kind 0. */
    int bagOf(StratumCounts x, int stratum, long grams) {
        int bag = x.bag(stratum);
        yes("weight of bag " + bag, x.weight(bag, 0, grams));
        return bag;
    }

    void end() {
        System.out.println(test + ": " + asked + " answers, " + wrong + " not as due");
        if (wrong != 0 || asked == 0) {
            System.exit(1);
        }
    }
}
