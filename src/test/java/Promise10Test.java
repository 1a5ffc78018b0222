/** Promise 10 (mean): its kinds and parts, when there is none, the least and the greatest. */
public final class Promise10Test {
    private static final Bounds T = new Bounds("Promise 10");

    public static void main(String[] args) {
        eachMeanTimesItsWeight();
        lowestTerms();
        kinds();
        parts();
        noStratumCounts();
        leastAndGreatest();
        largestParts();
        T.end();
    }

    private static void eachMeanTimesItsWeight() {
        T.test("A part of the mean of a kind");
        T.given("stratum(1)", "stratum(3)", "stratum(100)");
        T.givenBags(0, 0, 100);
        T.givenBags(1, 1, 10, 30);
        // 1/4 of 100 and 3/4 of 20: the third one does not count.
        T.told("mean", 0, 40, 1);
    }

    private static void lowestTerms() {
        T.test("A part of the mean of a kind: in lowest terms");
        T.given("stratum(6)");
        T.givenBags(0, 0, 4, 6);
        T.told("mean", 0, 5, 1);
        T.givenBags(2, 0, 6);
        T.told("mean", 0, 16, 3);
        T.givenBags(3, 0, 6);
        T.told("mean", 0, 11, 2);
    }

    private static void kinds() {
        T.test("NONE when there is no such kind");
        T.given(States.ORDINARY);
        T.refuses("mean(-1, 0)", "mean(3, 0)", "mean(4, 1)", "mean(min, 0)", "mean(max, 1)");
        T.anew(0);
        T.given("stratum(1)", "bag(0)", "weight(0, 0, 21)", "weight(0, 1, 22)", "weight(0, 2, 23)");
        T.refuses("mean(-1, 0)", "mean(3, 0)");
        T.told("mean", 0, 21, 1);
        T.told("mean", 1, 22, 1);
        T.told("mean", 2, 23, 1);
    }

    private static void parts() {
        T.test("NONE when there is no such part");
        T.given(States.ORDINARY);
        T.refuses("mean(0, -1)", "mean(0, 2)", "mean(2, 3)", "mean(0, min)", "mean(0, max)");
        T.anew(0);
        T.given("stratum(1)");
        T.givenBags(0, 0, 3, 4);
        T.refuses("mean(0, -1)", "mean(0, 2)");
        T.told("mean", 0, 7, 2);
    }

    private static void noStratumCounts() {
        T.test("NONE when no stratum counts");
        T.refuses("mean(0, 0)", "mean(0, 1)");
        T.given("stratum(50)", "stratum(25)");
        T.refuses("mean(0, 0)", "mean(0, 1)", "mean(1, 0)", "mean(2, 1)");
        T.givenBags(0, 1, 9);
        T.told("mean", 0, 9, 1);
        T.told("mean", 2, 0, 1);
        T.givenBags(1, 0, 6);
        T.told("mean", 0, 7, 1);
        T.yes("missing(0)");
        T.told("mean", 0, 6, 1);
        T.yes("missing(1)");
        T.refuses("mean(0, 0)", "mean(0, 1)", "mean(1, 0)", "mean(2, 1)");
        T.yes("joined(0, 1)");
        T.refuses("mean(0, 0)", "mean(0, 1)");
    }

    private static void leastAndGreatest() {
        T.test("A part of the mean of a kind: 0 and 10000");
        T.given("stratum(100)", "stratum(100)", "stratum(100)", "stratum(100)");
        for (int bag = 0; bag < 12; bag++) {
            T.given("bag(" + bag % 4 + ")");
        }
        T.told("mean", 1, 0, 1);
        for (int bag = 0; bag < 12; bag++) {
            T.yes("weight(" + bag + ", 1, 10000)");
        }
        T.told("mean", 1, 10000, 1);
        T.yes("weight(11, 1, 9999)");
        // One gram of 12 bags, all of the same weight.
        T.told("mean", 1, 119999, 12);
    }

    /** Three strata whose numbers of bags and sizes share little; worked out by another program. */
    private static void largestParts() {
        T.test("A part of the mean of a kind: exact when the parts are large");
        T.given("stratum(97)", "stratum(89)", "stratum(83)");
        T.givenBags(0, 0, 10000, 9999, 9973);
        T.givenBags(3, 1, 1, 9967, 10000, 7);
        T.givenBags(7, 2, 9949, 0, 10000, 3, 9941);
        T.told("mean", 0, 114585733, 16140);
    }
}
