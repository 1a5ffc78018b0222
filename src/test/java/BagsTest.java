/** Promises 4 (bag), 5 (weight), 6 (year) and 7 (missing). */
public final class BagsTest {
    private static final Expect E = new Expect("BagsTest");

    public static void main(String[] args) {
        bagNumbers();
        bagRefuses();
        weights();
        weightRefuses();
        years();
        missing();
        missingBagsStayBags();
        E.end();
    }

    private static StratumCounts oneStratum() {
        StratumCounts x = new StratumCounts(3);
        x.stratum(10);
        return x;
    }

    private static void bagNumbers() {
        StratumCounts x = oneStratum();
        x.stratum(20);
        for (int bag = 0; bag < 12; bag++) {
            E.same("bag", x.bag(bag % 2), bag);
        }
        E.none("a thirteenth bag", x.bag(0));
        E.none("a thirteenth bag", x.bag(1));
        E.yes("missing(11)", x.missing(11));
        E.none("a thirteenth bag though one is missing", x.bag(0));
    }

    private static void bagRefuses() {
        StratumCounts x = oneStratum();
        for (int stratum : new int[] {-1, 1, 4, Integer.MIN_VALUE, Integer.MAX_VALUE}) {
            E.none("bag(" + stratum + ")", x.bag(stratum));
        }
        x.stratum(5);
        E.yes("joined(0, 1)", x.joined(0, 1));
        E.none("bag of one that is gone", x.bag(1));
        E.same("refused bags take no number", x.bag(0), 0);
        E.mean(x, 0, 0, 1);
        E.mean(x, 1, 0, 1);
        E.mean(x, 2, 0, 1);
    }

    private static void weights() {
        StratumCounts x = oneStratum();
        x.bag(0);
        x.bag(0);
        E.yes("weight(0, 0, 10000)", x.weight(0, 0, 10000));
        E.yes("weight(0, 1, 7)", x.weight(0, 1, 7));
        E.yes("weight(1, 2, 3)", x.weight(1, 2, 3));
        E.mean(x, 0, 5000, 1);
        E.mean(x, 1, 7, 2);
        E.mean(x, 2, 3, 2);
        E.yes("weight(0, 0, 0)", x.weight(0, 0, 0));
        E.mean(x, 0, 0, 1);
        E.mean(x, 1, 7, 2);
        E.yes("weighed again", x.weight(0, 1, 9));
        E.mean(x, 1, 9, 2);
    }

    private static void weightRefuses() {
        StratumCounts x = oneStratum();
        x.bag(0);
        x.weight(0, 0, 11);
        x.weight(0, 2, 13);
        for (long grams : new long[] {-1, 10001, 1L << 32, Long.MIN_VALUE, Long.MAX_VALUE}) {
            E.no("weight(0, 0, " + grams + ")", x.weight(0, 0, grams));
        }
        for (int kind : new int[] {-1, 3, Integer.MIN_VALUE, Integer.MAX_VALUE}) {
            E.no("weight(0, " + kind + ", 1)", x.weight(0, kind, 1));
        }
        for (int bag : new int[] {-1, 1, 12, Integer.MIN_VALUE, Integer.MAX_VALUE}) {
            E.no("weight(" + bag + ", 0, 1)", x.weight(bag, 0, 1));
        }
        E.mean(x, 0, 11, 1);
        E.mean(x, 1, 0, 1);
        E.mean(x, 2, 13, 1);
        x.bag(0);
        E.mean(x, 2, 13, 2);
    }

    private static void years() {
        StratumCounts x = oneStratum();
        E.bagOf(x, 0, 1);
        E.bagOf(x, 0, 2);
        E.none("all are of year 0 at first", x.compared(0, 1));
        for (int y : new int[] {-1, 2, Integer.MIN_VALUE, Integer.MAX_VALUE}) {
            E.no("year(0, " + y + ")", x.year(0, y));
        }
        for (int bag : new int[] {-1, 2, 12, Integer.MIN_VALUE, Integer.MAX_VALUE}) {
            E.no("year(" + bag + ", 1)", x.year(bag, 1));
        }
        E.none("refused years change nothing", x.compared(0, 1));
        E.yes("year(1, 1)", x.year(1, 1));
        E.compared(x, 0, 2, 2);
        E.yes("year(1, 1) again", x.year(1, 1));
        E.compared(x, 0, 2, 2);
        E.yes("year(0, 1)", x.year(0, 1));
        E.none("all are of year 1", x.compared(0, 1));
        E.yes("year(1, 0)", x.year(1, 0));
        E.compared(x, 0, 2, 2);
    }

    private static void missing() {
        StratumCounts x = oneStratum();
        E.bagOf(x, 0, 10);
        E.bagOf(x, 0, 20);
        E.bagOf(x, 0, 60);
        for (int bag : new int[] {-1, 3, 12, Integer.MIN_VALUE, Integer.MAX_VALUE}) {
            E.no("missing(" + bag + ")", x.missing(bag));
        }
        E.mean(x, 0, 30, 1);
        E.yes("missing(2)", x.missing(2));
        E.mean(x, 0, 15, 1);
        E.spread(x, 0, 25, 1);
        E.no("missing(2) again", x.missing(2));
        E.mean(x, 0, 15, 1);
        E.yes("missing(0)", x.missing(0));
        E.yes("missing(1)", x.missing(1));
        E.none("mean of none", x.mean(0, 0));
        E.same("counting()", x.counting(), 0);
    }

    private static void missingBagsStayBags() {
        StratumCounts x = oneStratum();
        E.bagOf(x, 0, 10);
        E.bagOf(x, 0, 20);
        E.yes("missing(0)", x.missing(0));
        E.yes("weight of a missing bag", x.weight(0, 0, 16));
        E.yes("year of a missing bag", x.year(0, 1));
        E.same("repeat of a missing bag", x.repeat(0, 0, 10), 1);
        E.error(x, 0, 18, 1);
        E.mean(x, 0, 20, 1);
        E.none("a missing bag is not compared", x.compared(0, 0));
    }
}
