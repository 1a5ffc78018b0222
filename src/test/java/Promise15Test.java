/** Promise 15 (joined): which strata can be joined, and how large they may be together. */
public final class Promise15Test {
    private static final Bounds T = new Bounds("Promise 15");

    public static void main(String[] args) {
        bagsAndSizeMove();
        firstOneKeepsItsCost();
        noneSuch();
        oneIsGone();
        bothTheSame();
        hundredTogether();
        allFour();
        emptyStrata();
        T.end();
    }

    private static void bagsAndSizeMove() {
        T.test("The second stratum is joined to the first one");
        T.given("stratum(10)", "stratum(20)", "stratum(30)");
        T.givenBags(0, 0, 90);
        T.givenBags(1, 1, 30);
        T.givenBags(2, 2, 10);
        T.told("mean", 0, 30, 1);
        T.yes("joined(2, 0)");
        // 40/60 of (10 + 90) / 2, and 20/60 of 30.
        T.told("mean", 0, 130, 3);
        T.refuses("bag(0)", "cost(0, 5)", "draw(0, 0)");
        T.is("draw(2, 40)", 40);
        T.refuses("draw(2, 41)");
        T.yes("missing(0)");
        T.told("mean", 0, 50, 3);
    }

    /** The document says nothing of the cost: so the first stratum stays as it is but for bags and size. */
    private static void firstOneKeepsItsCost() {
        T.test("The second stratum is joined to the first one: its cost");
        T.given("stratum(1)", "stratum(1)", "cost(0, 30)", "cost(1, 500)", "bag(0)", "bag(1)");
        T.yes("joined(0, 1)");
        T.is("plan(0, 0, 1)", 30);
    }

    private static void noneSuch() {
        T.test("false when there are none such");
        T.refuses("joined(0, 1)", "joined(-1, 0)");
        T.given("stratum(1)");
        T.refuses("joined(0, 1)", "joined(1, 0)", "joined(0, -1)", "joined(-1, 0)");
        T.anew(0);
        T.given(States.ORDINARY);
        T.refuses("joined(0, 3)", "joined(3, 0)", "joined(0, 4)", "joined(4, 0)", "joined(-1, 0)", "joined(0, -1)",
            "joined(min, 0)", "joined(0, max)", "joined(min, max)", "joined(-1, -2)", "joined(3, 4)");
        T.yes("joined(0, 2)");
    }

    private static void oneIsGone() {
        T.test("false when one is gone");
        T.given(States.ORDINARY);
        T.yes("joined(0, 2)");
        T.refuses("joined(0, 2)", "joined(2, 0)", "joined(2, 1)", "joined(1, 2)", "joined(2, 2)");
        T.yes("joined(0, 1)");
        T.refuses("joined(0, 1)", "joined(1, 0)", "joined(1, 2)", "joined(2, 1)");
    }

    private static void bothTheSame() {
        T.test("false when both are the same");
        T.given(States.ORDINARY);
        T.refuses("joined(0, 0)", "joined(1, 1)", "joined(2, 2)");
        T.anew(0);
        T.given("stratum(1)", "stratum(2)");
        T.refuses("joined(0, 0)", "joined(1, 1)");
        T.yes("joined(1, 0)");
        T.refuses("joined(1, 1)");
    }

    private static void hundredTogether() {
        T.test("false when they would have more than 100 together");
        T.given("stratum(40)", "stratum(61)", "stratum(60)", "stratum(100)");
        T.givenBags(0, 0, 10);
        T.givenBags(1, 2, 30);
        T.refuses("joined(0, 1)", "joined(1, 0)", "joined(0, 3)", "joined(3, 0)", "joined(3, 1)");
        T.told("mean", 0, 22, 1);
        T.yes("joined(0, 2)");
        T.told("mean", 0, 20, 1);
        T.is("draw(0, 100)", 100);
        T.refuses("joined(0, 1)", "joined(0, 3)", "draw(0, 101)");
        T.anew(0);
        T.given("stratum(99)", "stratum(1)", "stratum(1)");
        T.yes("joined(1, 0)");
        T.refuses("joined(1, 2)", "joined(2, 1)");
    }

    private static void allFour() {
        T.test("The second stratum is joined to the first one: until one is left");
        T.given("stratum(25)", "stratum(25)", "stratum(25)", "stratum(25)");
        T.givenBags(0, 0, 4);
        T.givenBags(1, 1, 8);
        T.givenBags(2, 2, 16);
        T.givenBags(3, 3, 32);
        T.yes("joined(1, 0)");
        T.yes("joined(2, 1)");
        // 3/4 of (4 + 8 + 16) / 3, and 1/4 of 32.
        T.told("mean", 0, 15, 1);
        T.yes("joined(3, 2)");
        T.told("mean", 0, 15, 1);
        T.is("counting()", 1);
        T.refuses("joined(3, 0)", "joined(3, 1)", "joined(3, 2)", "joined(3, 3)", "joined(0, 1)");
        T.is("draw(3, 100)", 100);
    }

    private static void emptyStrata() {
        T.test("The second stratum is joined to the first one: without bags");
        T.given("stratum(10)", "stratum(20)", "stratum(30)");
        T.givenBags(0, 0, 90);
        T.givenBags(1, 2, 30);
        T.told("mean", 0, 45, 1);
        T.yes("joined(0, 1)");
        // 30 and 30 now.
        T.told("mean", 0, 60, 1);
        T.is("counting()", 2);
    }
}
