/** Promises 1 (a new object), 2 (stratum), 15 (joined) and 18 (counting). */
public final class StrataTest {
    private static final Expect E = new Expect("StrataTest");

    public static void main(String[] args) {
        newObject();
        numbersAndSizes();
        counting();
        countingFollowsJoins();
        joinedRefuses();
        joinedMovesBagsAndSize();
        joinedInAChain();
        joinedKeepsTheFirstCost();
        E.end();
    }

    private static void newObject() {
        for (long seed : new long[] {0, 1, -1, Long.MIN_VALUE, Long.MAX_VALUE}) {
            StratumCounts x = new StratumCounts(seed);
            E.same("counting()", x.counting(), 0);
            E.none("planned(0)", x.planned(0));
            E.none("drawn(0, 0)", x.drawn(0, 0));
            E.none("draw(0, 0)", x.draw(0, 0));
            E.none("bag(0)", x.bag(0));
            E.no("missing(0)", x.missing(0));
            E.no("year(0, 0)", x.year(0, 0));
            E.no("weight(0, 0, 0)", x.weight(0, 0, 0));
            E.no("cost(0, 1)", x.cost(0, 1));
            E.no("joined(0, 1)", x.joined(0, 1));
            E.none("repeat(0, 0, 0)", x.repeat(0, 0, 0));
            for (int kind = 0; kind < 3; kind++) {
                for (int part = 0; part < 2; part++) {
                    E.none("mean", x.mean(kind, part));
                    E.none("spread", x.spread(kind, part));
                    E.none("compared", x.compared(kind, part));
                    E.none("error", x.error(kind, part));
                }
                E.none("plan", x.plan(kind, 1000000000L, 1));
            }
        }
    }

    private static void numbersAndSizes() {
        StratumCounts x = new StratumCounts(7);
        for (int size : new int[] {0, 101, -1, 1000, Integer.MIN_VALUE, Integer.MAX_VALUE}) {
            E.none("stratum(" + size + ")", x.stratum(size));
        }
        E.same("stratum(1)", x.stratum(1), 0);
        E.same("stratum(100)", x.stratum(100), 1);
        E.none("stratum(0)", x.stratum(0));
        E.same("stratum(50)", x.stratum(50), 2);
        E.same("stratum(50) again", x.stratum(50), 3);
        E.none("a fifth stratum", x.stratum(50));
        E.same("draw of all of size 1", x.draw(0, 1), 1);
        E.none("draw of more than size 1", x.draw(0, 2));
        E.same("draw of all of size 100", x.draw(1, 100), 100);
        // One that is gone still takes up its number.
        E.yes("joined(2, 3)", x.joined(2, 3));
        E.none("a fifth stratum after a join", x.stratum(1));
    }

    private static void counting() {
        StratumCounts x = new StratumCounts(7);
        x.stratum(1);
        x.stratum(2);
        x.stratum(3);
        E.same("counting() without bags", x.counting(), 0);
        E.same("bag(1)", x.bag(1), 0);
        E.same("counting() with a bag", x.counting(), 1);
        E.same("bag(1)", x.bag(1), 1);
        E.same("counting() with two bags of one stratum", x.counting(), 1);
        E.same("bag(2)", x.bag(2), 2);
        E.same("counting() with two strata", x.counting(), 2);
        E.yes("missing(0)", x.missing(0));
        E.same("counting() with one of two missing", x.counting(), 2);
        E.yes("missing(1)", x.missing(1));
        E.same("counting() with both missing", x.counting(), 1);
        E.same("bag(1)", x.bag(1), 3);
        E.same("counting() with a new bag", x.counting(), 2);
    }

    private static void countingFollowsJoins() {
        StratumCounts x = new StratumCounts(7);
        x.stratum(1);
        x.stratum(2);
        x.stratum(3);
        x.bag(0);
        x.bag(1);
        E.same("counting()", x.counting(), 2);
        E.yes("joined(2, 1)", x.joined(2, 1));
        E.same("counting() with the bag moved", x.counting(), 2);
        E.yes("joined(2, 0)", x.joined(2, 0));
        E.same("counting() with all in one", x.counting(), 1);
    }

    private static void joinedRefuses() {
        StratumCounts x = new StratumCounts(7);
        x.stratum(40);
        x.stratum(61);
        x.stratum(60);
        E.no("joined(0, 0)", x.joined(0, 0));
        E.no("joined(0, 3)", x.joined(0, 3));
        E.no("joined(3, 0)", x.joined(3, 0));
        E.no("joined(-1, 0)", x.joined(-1, 0));
        E.no("joined(0, -1)", x.joined(0, -1));
        E.no("joined(min, max)", x.joined(Integer.MIN_VALUE, Integer.MAX_VALUE));
        E.no("101 together", x.joined(0, 1));
        E.no("101 together, the other way", x.joined(1, 0));
        E.same("draw says 0 has its size still", x.draw(0, 40), 40);
        E.none("and no more", x.draw(0, 41));
        E.same("bag(1): 1 is not gone", x.bag(1), 0);
        E.yes("100 together", x.joined(0, 2));
        E.no("a second time", x.joined(0, 2));
        E.no("to one that is gone", x.joined(2, 1));
        E.no("one that is gone to itself", x.joined(2, 2));
        E.no("a full one", x.joined(0, 1));
    }

    private static void joinedMovesBagsAndSize() {
        StratumCounts x = new StratumCounts(7);
        x.stratum(10);
        x.stratum(20);
        x.stratum(30);
        E.bagOf(x, 0, 90);
        E.bagOf(x, 1, 30);
        E.bagOf(x, 2, 10);
        E.mean(x, 0, 30, 1);
        E.yes("joined(2, 0)", x.joined(2, 0));
        // Stratum 2 is 40 of 60 now, its mean (10 + 90) / 2; stratum 1 is 20 of 60.
        E.mean(x, 0, 130, 3);
        E.none("bag of one that is gone", x.bag(0));
        E.no("cost of one that is gone", x.cost(0, 5));
        E.none("draw of one that is gone", x.draw(0, 0));
        E.same("draw of both sizes", x.draw(2, 40), 40);
        E.none("draw of more", x.draw(2, 41));
        E.yes("a bag of one that is gone can be missing", x.missing(0));
        E.mean(x, 0, 50, 3);
    }

    private static void joinedInAChain() {
        StratumCounts x = new StratumCounts(7);
        x.stratum(25);
        x.stratum(25);
        x.stratum(25);
        x.stratum(25);
        E.bagOf(x, 0, 4);
        E.bagOf(x, 1, 8);
        E.bagOf(x, 2, 16);
        E.bagOf(x, 3, 32);
        E.yes("joined(1, 0)", x.joined(1, 0));
        E.yes("joined(2, 1)", x.joined(2, 1));
        // 75 of 100 with the mean 28 / 3, 25 of 100 with 32.
        E.mean(x, 0, 15, 1);
    }

    private static void joinedKeepsTheFirstCost() {
        StratumCounts x = new StratumCounts(7);
        x.stratum(1);
        x.stratum(1);
        x.cost(0, 30);
        x.cost(1, 500);
        E.bagOf(x, 0, 1);
        E.bagOf(x, 1, 1);
        E.yes("joined(0, 1)", x.joined(0, 1));
        E.same("plan's cost", x.plan(0, 0, 1), 30);
    }
}
