/** Promise 11 (spread): its kinds and parts, when there is none, the least and the greatest. */
public final class Promise11Test {
    private static final Bounds T = new Bounds("Promise 11");

    public static void main(String[] args) {
        byHand();
        kinds();
        parts();
        noStratumCounts();
        oneBagOnly();
        oneBagOnlyInAnyStratum();
        oneBagThatIsNotMissing();
        leastAndGreatest();
        largestParts();
        T.end();
    }

    private static void byHand() {
        T.test("A part of the spread of the mean");
        T.given("stratum(1)", "stratum(2)", "stratum(100)");
        T.givenBags(0, 0, 1, 2, 6);
        T.givenBags(3, 1, 10, 14);
        // 1/9 of (4 + 1 + 9) / 2 / 3 and 4/9 of (4 + 4) / 1 / 2: the third one does not count.
        T.told("spread", 0, 55, 27);
    }

    private static void kinds() {
        T.test("NONE likewise: no such kind");
        T.given(States.ORDINARY);
        T.refuses("spread(-1, 0)", "spread(3, 0)", "spread(4, 1)", "spread(min, 0)", "spread(max, 1)");
        T.anew(0);
        T.given("stratum(1)", "bag(0)", "bag(0)", "weight(0, 0, 2)", "weight(0, 1, 4)", "weight(0, 2, 6)");
        T.refuses("spread(-1, 0)", "spread(3, 0)");
        T.told("spread", 0, 1, 1);
        T.told("spread", 1, 4, 1);
        T.told("spread", 2, 9, 1);
    }

    private static void parts() {
        T.test("NONE likewise: no such part");
        T.given(States.ORDINARY);
        T.refuses("spread(0, -1)", "spread(0, 2)", "spread(2, 3)", "spread(0, min)", "spread(0, max)");
        T.anew(0);
        T.given("stratum(1)");
        T.givenBags(0, 0, 3, 4);
        T.refuses("spread(0, -1)", "spread(0, 2)");
        T.told("spread", 0, 1, 4);
    }

    private static void noStratumCounts() {
        T.test("NONE likewise: no stratum counts");
        T.refuses("spread(0, 0)", "spread(0, 1)");
        T.given("stratum(5)", "stratum(5)");
        T.refuses("spread(0, 0)", "spread(0, 1)");
        T.givenBags(0, 1, 3, 5);
        T.told("spread", 0, 1, 1);
        T.yes("missing(0)", "missing(1)");
        T.refuses("spread(0, 0)", "spread(0, 1)");
    }

    private static void oneBagOnly() {
        T.test("NONE when a stratum that counts has one bag only");
        T.given("stratum(5)");
        T.givenBags(0, 0, 3);
        T.refuses("spread(0, 0)", "spread(0, 1)", "spread(1, 0)", "spread(2, 1)");
        T.givenBags(1, 0, 5);
        T.told("spread", 0, 1, 1);
        T.told("spread", 1, 0, 1);
    }

    private static void oneBagOnlyInAnyStratum() {
        T.test("NONE when a stratum that counts has one bag only: whichever it is");
        for (int lone = 0; lone < 4; lone++) {
            T.anew(0);
            T.given("stratum(5)", "stratum(5)", "stratum(5)", "stratum(5)");
            int bag = 0;
            for (int s = 0; s < 4; s++) {
                T.givenBags(bag, s, s == lone ? new long[] {3} : new long[] {3, 5});
                bag += s == lone ? 1 : 2;
            }
            T.refuses("spread(0, 0)", "spread(0, 1)");
            T.givenBags(7, lone, 5);
            T.told("spread", 0, 1, 4);
        }
    }

    private static void oneBagThatIsNotMissing() {
        T.test("NONE when a stratum that counts has one bag only that is not missing");
        T.given("stratum(5)", "stratum(5)");
        T.givenBags(0, 0, 3, 5);
        T.givenBags(2, 1, 7, 9, 11);
        T.yes("missing(3)");
        // (1/4) * 2 / 2 + (1/4) * 8 / 2
        T.told("spread", 0, 5, 4);
        T.yes("missing(4)");
        T.refuses("spread(0, 0)", "spread(0, 1)");
        // With none that is not missing it does not count.
        T.yes("missing(2)");
        T.told("spread", 0, 1, 1);
        T.givenBags(5, 1, 7);
        T.refuses("spread(0, 0)", "spread(0, 1)");
        T.yes("joined(0, 1)");
        // 3, 5 and 7: 4 over 3.
        T.told("spread", 0, 4, 3);
    }

    private static void leastAndGreatest() {
        T.test("A part of the spread of the mean: 0 and the farthest");
        T.given("stratum(100)", "stratum(99)");
        T.givenBags(0, 0, 10000, 10000);
        T.told("spread", 0, 0, 1);
        T.yes("weight(0, 0, 0)");
        T.told("spread", 0, 25000000, 1);
        T.givenBags(2, 1, 10000, 0);
        T.told("spread", 0, 495025000000L, 39601);
    }

    /** Numbers of bags that share no factor, and grams as far apart as can be; worked out by another program. */
    private static void largestParts() {
        T.test("A part of the spread of the mean: exact when the parts are large");
        T.given("stratum(97)", "stratum(89)", "stratum(83)");
        T.givenBags(0, 0, 10000, 9999, 9973);
        T.givenBags(3, 1, 1, 9967, 10000, 7);
        T.givenBags(7, 2, 9949, 0, 10000, 3, 9941);
        T.told("spread", 0, 384331953363649L, 260499600);
        T.anew(0);
        T.given("stratum(100)", "stratum(99)");
        T.givenBags(0, 0, 0, 0, 10000, 10000, 10000);
        T.givenBags(5, 1, 0, 0, 0, 0, 10000, 10000, 9999);
        T.told("spread", 0, 4900069329801L, 1940449);
        T.anew(0);
        T.given("stratum(100)", "stratum(100)", "stratum(100)", "stratum(99)");
        T.givenBags(0, 0, 0, 10000);
        T.givenBags(2, 1, 0, 10000);
        T.givenBags(4, 2, 0, 9999, 1, 10000, 0);
        T.givenBags(9, 3, 0, 1, 10000);
        T.told("spread", 0, 668879112089L, 159201);
    }
}
