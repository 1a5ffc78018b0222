/** Promise 14 (compared). */
public final class CompareTest {
    private static final Expect E = new Expect("CompareTest");

    public static void main(String[] args) {
        byHand();
        unequalNumbers();
        bothSidesCount();
        allWaysByNumbers();
        bagsOfAllStrata();
        atMostTen();
        wrongKindsAndParts();
        E.end();
    }

    /** One stratum; the first bags are of year 0, the others of year 1. */
    private static StratumCounts twoYears(int firsts, long... grams) {
        StratumCounts x = new StratumCounts(0);
        x.stratum(100);
        for (int i = 0; i < grams.length; i++) {
            int bag = E.bagOf(x, 0, grams[i]);
            E.yes("year", x.year(bag, i < firsts ? 0 : 1));
        }
        return x;
    }

    private static void byHand() {
        // {1, 2} and {3, 4} are apart by 2, {1, 3} and {2, 4} by 1, {1, 4} and {2, 3} by 0.
        E.compared(twoYears(2, 1, 2, 3, 4), 0, 2, 6);
        E.compared(twoYears(2, 1, 3, 2, 4), 0, 4, 6);
        E.compared(twoYears(2, 1, 4, 2, 3), 0, 6, 6);
        E.compared(twoYears(2, 5, 5, 5, 5), 0, 6, 6);
        E.compared(twoYears(1, 0, 10000), 0, 2, 2);
    }

    private static void unequalNumbers() {
        // One against two: 0 is 6 from the mean 6 of {5, 7}, 5 is 3/2 from 7/2, 7 is 9/2 from 5/2.
        E.compared(twoYears(1, 0, 5, 7), 0, 1, 3);
        E.compared(twoYears(1, 5, 0, 7), 0, 3, 3);
        E.compared(twoYears(1, 7, 0, 5), 0, 2, 3);
        // The same, with two called year 0.
        E.compared(twoYears(2, 5, 7, 0), 0, 1, 3);
        E.compared(twoYears(2, 0, 7, 5), 0, 3, 3);
        E.compared(twoYears(2, 0, 5, 7), 0, 2, 3);
    }

    private static void bothSidesCount() {
        // As far below as above: 0 and 10 are both 15/2 from the mean of the others.
        E.compared(twoYears(1, 0, 10, 5), 0, 2, 3);
        E.compared(twoYears(1, 10, 0, 5), 0, 2, 3);
    }

    private static void allWaysByNumbers() {
        long[] ways = {0, 10, 45, 120, 210, 252, 210, 120, 45, 10};
        for (int firsts = 1; firsts < 10; firsts++) {
            E.compared(twoYears(firsts, 3, 3, 3, 3, 3, 3, 3, 3, 3, 3), 0, ways[firsts], ways[firsts]);
        }
        E.compared(twoYears(3, 0, 0, 0, 10000, 10000, 10000, 10000, 10000, 10000, 10000), 0, 1, 120);
    }

    private static void bagsOfAllStrata() {
        StratumCounts x = new StratumCounts(0);
        x.stratum(1);
        x.stratum(100);
        E.bagOf(x, 0, 1);
        E.bagOf(x, 1, 2);
        E.bagOf(x, 0, 3);
        E.bagOf(x, 1, 4);
        x.year(2, 1);
        x.year(3, 1);
        // As in byHand: the strata's sizes do not weigh here.
        E.compared(x, 0, 2, 6);
        E.compared(x, 1, 6, 6);
        x.weight(0, 1, 9);
        x.weight(3, 1, 9);
        // The nines stand in different years in four ways, as they do; in the other two they are farther apart.
        E.compared(x, 1, 6, 6);
        x.weight(1, 1, 9);
        x.weight(3, 1, 0);
        E.compared(x, 1, 2, 6);
        E.no("joined(1, 0): 101 together", x.joined(1, 0));
        E.yes("missing(1)", x.missing(1));
        E.compared(x, 1, 1, 3);
        E.yes("missing(0)", x.missing(0));
        E.none("year 0 has none", x.compared(1, 0));
        E.none("year 0 has none", x.compared(1, 1));
    }

    private static void atMostTen() {
        StratumCounts x = twoYears(1, 9, 1, 1, 1, 1, 1, 1, 1, 1, 1, 1, 1);
        E.none("twelve", x.compared(0, 0));
        E.yes("missing(11)", x.missing(11));
        E.none("eleven", x.compared(0, 0));
        E.none("eleven", x.compared(0, 1));
        E.yes("missing(5)", x.missing(5));
        E.compared(x, 0, 1, 10);
        E.yes("missing(0)", x.missing(0));
        E.none("year 0 has none", x.compared(0, 1));
    }

    private static void wrongKindsAndParts() {
        StratumCounts x = twoYears(1, 0, 5, 7);
        for (int wrong : new int[] {-1, 3, 4, Integer.MIN_VALUE, Integer.MAX_VALUE}) {
            E.none("compared(" + wrong + ", 0)", x.compared(wrong, 0));
        }
        for (int wrong : new int[] {-1, 2, 3, Integer.MIN_VALUE, Integer.MAX_VALUE}) {
            E.none("compared(0, " + wrong + ")", x.compared(0, wrong));
        }
        E.none("one year alone", twoYears(3, 0, 5, 7).compared(0, 0));
        E.none("the other alone", twoYears(0, 0, 5, 7).compared(0, 0));
    }
}
