/** Promises 16 (repeat) and 17 (error). */
public final class RepeatTest {
    private static final Expect E = new Expect("RepeatTest");

    public static void main(String[] args) {
        counts();
        refuses();
        fortyAtMost();
        errorByHand();
        errorFollowsTheGrams();
        errorOfMissingAndJoined();
        largestError();
        wrongKindsAndParts();
        E.end();
    }

    private static StratumCounts twoBags(long first, long second) {
        StratumCounts x = new StratumCounts(0);
        x.stratum(10);
        E.bagOf(x, 0, first);
        E.bagOf(x, 0, second);
        return x;
    }

    private static void counts() {
        StratumCounts x = twoBags(5, 6);
        E.same("repeat", x.repeat(0, 0, 0), 1);
        E.same("repeat", x.repeat(0, 1, 10000), 2);
        E.same("repeat", x.repeat(1, 2, 7), 3);
        E.same("the same again", x.repeat(1, 2, 7), 4);
        E.mean(x, 0, 11, 2);
    }

    private static void refuses() {
        StratumCounts x = twoBags(5, 6);
        for (int bag : new int[] {-1, 2, 12, Integer.MIN_VALUE, Integer.MAX_VALUE}) {
            E.none("repeat(" + bag + ", 0, 1)", x.repeat(bag, 0, 1));
        }
        for (int kind : new int[] {-1, 3, Integer.MIN_VALUE, Integer.MAX_VALUE}) {
            E.none("repeat(0, " + kind + ", 1)", x.repeat(0, kind, 1));
        }
        for (long grams : new long[] {-1, 10001, 1L << 32, Long.MIN_VALUE, Long.MAX_VALUE}) {
            E.none("repeat(0, 0, " + grams + ")", x.repeat(0, 0, grams));
        }
        E.none("error of nothing", x.error(0, 0));
        E.same("repeat", x.repeat(0, 0, 6), 1);
        E.error(x, 0, 1, 2);
    }

    private static void fortyAtMost() {
        StratumCounts x = twoBags(5, 6);
        for (int i = 1; i <= 40; i++) {
            E.same("repeat", x.repeat(i % 2, i % 3, i), i);
        }
        long above = x.error(0, 0);
        long below = x.error(0, 1);
        E.none("a 41st", x.repeat(0, 0, 9));
        E.none("a 42nd", x.repeat(1, 1, 9));
        E.same("error above", x.error(0, 0), above);
        E.same("error below", x.error(0, 1), below);
    }

    private static void errorByHand() {
        StratumCounts x = twoBags(100, 200);
        E.same("repeat", x.repeat(0, 0, 103), 1);
        E.error(x, 0, 9, 2);
        E.same("repeat", x.repeat(1, 0, 199), 2);
        E.error(x, 0, 5, 2);
        E.same("repeat", x.repeat(1, 0, 200), 3);
        E.error(x, 0, 5, 3);
        E.none("another kind", x.error(1, 0));
        E.none("another kind", x.error(1, 1));
        E.same("repeat", x.repeat(1, 1, 0), 4);
        E.error(x, 1, 0, 1);
        E.error(x, 0, 5, 3);
    }

    private static void errorFollowsTheGrams() {
        StratumCounts x = twoBags(100, 200);
        E.same("repeat", x.repeat(0, 0, 103), 1);
        E.yes("weight", x.weight(0, 0, 110));
        E.error(x, 0, 49, 2);
        E.yes("weight", x.weight(0, 0, 103));
        E.error(x, 0, 0, 1);
    }

    private static void errorOfMissingAndJoined() {
        StratumCounts x = twoBags(100, 200);
        x.stratum(10);
        E.same("repeat", x.repeat(0, 0, 102), 1);
        E.yes("missing(0)", x.missing(0));
        E.error(x, 0, 2, 1);
        E.same("repeat of a missing bag", x.repeat(0, 0, 100), 2);
        E.error(x, 0, 1, 1);
        E.yes("joined(1, 0)", x.joined(1, 0));
        E.error(x, 0, 1, 1);
        E.same("repeat of a moved bag", x.repeat(1, 0, 200), 3);
        E.error(x, 0, 2, 3);
    }

    private static void largestError() {
        StratumCounts x = twoBags(0, 10000);
        for (int i = 1; i <= 40; i++) {
            E.same("repeat", x.repeat(i % 2, 0, i % 2 == 0 ? 10000 : 0), i);
        }
        E.error(x, 0, 50000000, 1);
    }

    private static void wrongKindsAndParts() {
        StratumCounts x = twoBags(5, 6);
        E.same("repeat", x.repeat(0, 0, 6), 1);
        for (int wrong : new int[] {-1, 3, 4, Integer.MIN_VALUE, Integer.MAX_VALUE}) {
            E.none("error(" + wrong + ", 0)", x.error(wrong, 0));
        }
        for (int wrong : new int[] {-1, 2, 3, Integer.MIN_VALUE, Integer.MAX_VALUE}) {
            E.none("error(0, " + wrong + ")", x.error(0, wrong));
        }
    }
}
