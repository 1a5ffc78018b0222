/** Promises 10 (mean) and 11 (spread). */
public final class MeanAndSpreadTest {
    private static final Expect E = new Expect("MeanAndSpreadTest");

    public static void main(String[] args) {
        meanIsWeighed();
        meanInLowestTerms();
        onlyStrataThatCountWeigh();
        spreadByHand();
        spreadNeedsTwoBags();
        largeFigures();
        wrongKindsAndParts();
        E.end();
    }

    private static void meanIsWeighed() {
        StratumCounts x = new StratumCounts(0);
        x.stratum(1);
        x.stratum(3);
        E.bagOf(x, 0, 100);
        E.bagOf(x, 1, 10);
        E.bagOf(x, 1, 30);
        // 100 / 4 + 20 * 3 / 4
        E.mean(x, 0, 40, 1);
    }

    private static void meanInLowestTerms() {
        StratumCounts x = new StratumCounts(0);
        x.stratum(6);
        E.bagOf(x, 0, 4);
        E.bagOf(x, 0, 6);
        E.mean(x, 0, 5, 1);
        E.bagOf(x, 0, 6);
        E.mean(x, 0, 16, 3);
        E.bagOf(x, 0, 6);
        E.mean(x, 0, 11, 2);
        E.mean(x, 1, 0, 1);
    }

    private static void onlyStrataThatCountWeigh() {
        StratumCounts x = new StratumCounts(0);
        x.stratum(50);
        x.stratum(25);
        x.stratum(100);
        E.none("mean without bags", x.mean(0, 0));
        E.none("mean without bags", x.mean(0, 1));
        E.bagOf(x, 0, 9);
        E.mean(x, 0, 9, 1);
        int other = E.bagOf(x, 1, 0);
        E.mean(x, 0, 6, 1);
        E.yes("missing", x.missing(other));
        E.mean(x, 0, 9, 1);
    }

    private static void spreadByHand() {
        StratumCounts x = new StratumCounts(0);
        x.stratum(1);
        x.stratum(2);
        E.bagOf(x, 0, 1);
        E.bagOf(x, 0, 2);
        E.bagOf(x, 0, 6);
        E.bagOf(x, 1, 10);
        E.bagOf(x, 1, 14);
        // (1/9) * ((4 + 1 + 9) / 2) / 3 + (4/9) * ((4 + 4) / 1) / 2 = 7/27 + 48/27
        E.spread(x, 0, 55, 27);
        E.spread(x, 2, 0, 1);
    }

    private static void spreadNeedsTwoBags() {
        StratumCounts x = new StratumCounts(0);
        x.stratum(5);
        x.stratum(5);
        E.none("spread without bags", x.spread(0, 0));
        E.bagOf(x, 0, 3);
        E.none("spread with one bag", x.spread(0, 0));
        E.none("spread with one bag", x.spread(0, 1));
        E.bagOf(x, 0, 5);
        E.spread(x, 0, 1, 1);
        int lone = E.bagOf(x, 1, 5);
        E.none("spread with one bag in a second stratum", x.spread(0, 1));
        E.yes("missing", x.missing(lone));
        E.spread(x, 0, 1, 1);
        E.bagOf(x, 1, 5);
        E.none("spread with one that is not missing", x.spread(0, 0));
        E.bagOf(x, 1, 9);
        // (1 + 4) / 4
        E.spread(x, 0, 5, 4);
        E.yes("joined", x.joined(0, 1));
        // 3, 5, 5, 9: the mean is 5.5, the squares are 19 together, 19 / 3 / 4.
        E.spread(x, 0, 19, 12);
    }

    /** Denominators with no shared factor, and grams as far apart as they may be. */
    private static void largeFigures() {
        StratumCounts x = new StratumCounts(0);
        x.stratum(99);
        x.stratum(100);
        for (int i = 0; i < 12; i++) {
            E.bagOf(x, i < 5 ? 0 : 1, i % 2 == 0 ? 10000 : 0);
        }
        // Stratum 0 has 3 of 5 with 10000, stratum 1 has 3 of 7.
        // (99 * 6000 + 100 * 30000 / 7) / 199
        E.mean(x, 0, 7158000, 1393);
        // (9801 * 30000000 / 5 + 10000 * (200000000 / 7) / 7) / 39601
        E.spread(x, 0, 4881494000000L, 1940449);
    }

    private static void wrongKindsAndParts() {
        StratumCounts x = new StratumCounts(0);
        x.stratum(5);
        E.bagOf(x, 0, 3);
        E.bagOf(x, 0, 5);
        for (int wrong : new int[] {-1, 3, 4, Integer.MIN_VALUE, Integer.MAX_VALUE}) {
            E.none("mean(" + wrong + ", 0)", x.mean(wrong, 0));
            E.none("spread(" + wrong + ", 0)", x.spread(wrong, 0));
        }
        for (int wrong : new int[] {-1, 2, 3, Integer.MIN_VALUE, Integer.MAX_VALUE}) {
            E.none("mean(0, " + wrong + ")", x.mean(0, wrong));
            E.none("spread(0, " + wrong + ")", x.spread(0, wrong));
        }
    }
}
