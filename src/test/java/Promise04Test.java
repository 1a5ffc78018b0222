/** Promise 4 (bag): how many bags there may be, and of which strata. */
public final class Promise04Test {
    private static final Bounds T = new Bounds("Promise 4");

    public static void main(String[] args) {
        numbersFromTheFirstToTheLast();
        twelveAtMost();
        twelveThoughSomeAreMissing();
        noSuchStratum();
        goneStratum();
        T.end();
    }

    private static void numbersFromTheFirstToTheLast() {
        T.test("Answers its number");
        T.given("stratum(10)", "stratum(20)");
        for (int bag = 0; bag < 12; bag++) {
            T.refuses("weight(" + bag + ", 0, 1)");
            T.is("bag(" + bag % 2 + ")", bag);
            T.yes("weight(" + bag + ", 0, 1)");
        }
    }

    private static void twelveAtMost() {
        T.test("NONE when there are 12");
        T.given("stratum(10)", "stratum(20)");
        for (int bag = 0; bag < 11; bag++) {
            T.is("bag(0)", bag);
        }
        T.is("counting()", 1);
        T.is("bag(1)", 11);
        T.is("counting()", 2);
        T.refuses("bag(0)", "bag(1)");
        T.refuses("weight(12, 0, 1)", "missing(12)");
    }

    private static void twelveThoughSomeAreMissing() {
        T.test("NONE when there are 12, some of them missing or moved");
        T.given(States.FULL);
        T.refuses("bag(0)", "bag(1)", "bag(2)");
        for (int bag = 0; bag < 5; bag++) {
            T.yes("missing(" + bag + ")");
        }
        T.refuses("bag(0)", "bag(1)");
    }

    private static void noSuchStratum() {
        T.test("NONE when there is no such stratum");
        T.refuses("bag(0)", "bag(-1)");
        T.given(States.ORDINARY);
        T.refuses("bag(-1)", "bag(3)", "bag(4)", "bag(min)", "bag(max)");
        T.is("bag(2)", 8);
        T.is("bag(0)", 9);
        T.given("stratum(1)");
        T.is("bag(3)", 10);
        T.refuses("bag(4)");
    }

    private static void goneStratum() {
        T.test("NONE when it is gone");
        T.given("stratum(10)", "stratum(20)");
        T.is("bag(1)", 0);
        T.yes("joined(0, 1)");
        T.refuses("bag(1)");
        T.is("bag(0)", 1);
        T.is("counting()", 1);
    }
}
