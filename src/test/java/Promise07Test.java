/** Promise 7 (missing): which bags can be missing, and that they are so once. */
public final class Promise07Test {
    private static final Bounds T = new Bounds("Promise 7");

    public static void main(String[] args) {
        firstAndLastBag();
        noSuchBag();
        alreadyMissing();
        theLastOneOfAStratum();
        stillABag();
        T.end();
    }

    private static void firstAndLastBag() {
        T.test("A bag is missing from now on: the first and the last");
        T.given("stratum(1)");
        T.givenBags(0, 0, 10, 20, 60);
        T.told("mean", 0, 30, 1);
        T.yes("missing(0)");
        T.told("mean", 0, 40, 1);
        T.yes("missing(2)");
        T.told("mean", 0, 20, 1);
        T.anew(0);
        T.given("stratum(1)");
        T.givenBags(0, 0, 0, 0, 0, 0, 0, 0, 0, 0, 0, 0, 0, 12);
        T.told("mean", 0, 1, 1);
        T.yes("missing(11)");
        T.told("mean", 0, 0, 1);
        T.refuses("missing(12)");
    }

    private static void noSuchBag() {
        T.test("false when there is none such");
        T.refuses("missing(0)", "missing(-1)");
        T.given(States.ORDINARY);
        T.refuses("missing(-1)", "missing(8)", "missing(12)", "missing(min)", "missing(max)");
        // A bag that was not there yet when it was called missing is there later.
        T.is("bag(0)", 8);
        T.yes("missing(8)");
        T.refuses("missing(9)");
    }

    private static void alreadyMissing() {
        T.test("false when it is");
        T.given(States.ORDINARY);
        T.yes("missing(3)");
        T.refuses("missing(3)");
        T.yes("missing(4)");
        T.refuses("missing(3)", "missing(4)");
        // Neither a weight nor a year nor a join brings it back.
        T.yes("weight(3, 0, 1)", "year(3, 1)", "joined(0, 1)");
        T.refuses("missing(3)");
    }

    private static void theLastOneOfAStratum() {
        T.test("A bag is missing from now on: the last one that is not");
        T.given("stratum(1)", "stratum(1)");
        T.givenBags(0, 0, 10, 20);
        T.givenBags(2, 1, 50);
        T.told("mean", 0, 65, 2);
        T.yes("missing(0)");
        T.is("counting()", 2);
        T.yes("missing(1)");
        T.is("counting()", 1);
        T.told("mean", 0, 50, 1);
        T.yes("missing(2)");
        T.is("counting()", 0);
        T.refuses("mean(0, 0)", "missing(0)", "missing(1)", "missing(2)");
    }

    /** The document refuses a missing bag nowhere but in missing itself. */
    private static void stillABag() {
        T.test("A bag is missing from now on: it can be weighed, dated and sorted again, but is left out");
        T.given("stratum(10)");
        T.givenBags(0, 0, 10, 20);
        T.yes("missing(0)", "weight(0, 0, 16)", "year(0, 1)");
        T.is("repeat(0, 0, 10)", 1);
        T.told("error", 0, 18, 1);
        T.told("mean", 0, 20, 1);
        T.refuses("spread(0, 0)", "compared(0, 0)");
    }
}
