/** Promise 3 (cost): which costs and which strata are taken. */
public final class Promise03Test {
    private static final Bounds T = new Bounds("Promise 3");

    public static void main(String[] args) {
        eachStratumHasItsOwn();
        leastCost();
        greatestCost();
        noSuchStratum();
        goneStratum();
        T.end();
    }

    private static void eachStratumHasItsOwn() {
        T.test("A stratum's cost of a bag");
        T.given("stratum(1)", "stratum(1)", "bag(0)", "bag(0)", "bag(1)", "bag(1)");
        T.is("plan(0, 0, 1)", 2);
        T.yes("cost(0, 30)");
        T.is("plan(0, 0, 1)", 31);
        T.yes("cost(1, 500)");
        T.is("plan(0, 0, 1)", 530);
        T.yes("cost(0, 31)", "cost(0, 31)");
        T.is("plan(0, 0, 1)", 531);
    }

    private static void leastCost() {
        T.test("1 .. 100000 cents: the least");
        T.given(States.ORDINARY);
        T.refuses("cost(0, 0)", "cost(0, -1)", "cost(0, min)");
        T.is("plan(0, 1000000000, 1)", 7 + 11 + 13);
        T.yes("cost(0, 1)");
        T.is("plan(0, 1000000000, 1)", 1 + 11 + 13);
    }

    private static void greatestCost() {
        T.test("1 .. 100000 cents: the greatest");
        T.given(States.ORDINARY);
        // The last one is 7 in its lower 32 bits.
        T.refuses("cost(2, 100001)", "cost(2, max)", "cost(2, 4294967303)");
        T.is("plan(0, 1000000000, 1)", 7 + 11 + 13);
        T.yes("cost(2, 100000)");
        T.is("plan(0, 1000000000, 1)", 7 + 11 + 100000);
    }

    private static void noSuchStratum() {
        T.test("false when there is none such");
        T.refuses("cost(0, 5)");
        T.given(States.ORDINARY);
        T.refuses("cost(-1, 5)", "cost(3, 5)", "cost(4, 5)", "cost(min, 5)", "cost(max, 5)");
        T.yes("cost(0, 6)", "cost(2, 14)");
        T.is("plan(0, 1000000000, 1)", 6 + 11 + 14);
        // The refused cost of a stratum that was not there yet is not its cost later.
        T.is("stratum(1)", 3);
        T.given("bag(3)", "bag(3)");
        T.is("plan(0, 1000000000, 1)", 6 + 11 + 14 + 1);
        T.yes("cost(3, 5)");
        T.refuses("cost(4, 5)");
        T.is("plan(0, 1000000000, 1)", 6 + 11 + 14 + 5);
    }

    private static void goneStratum() {
        T.test("false when it is gone");
        T.given(States.ORDINARY);
        T.yes("cost(2, 12)");
        T.yes("joined(0, 2)");
        T.refuses("cost(2, 12)", "cost(2, 1)", "cost(2, 100000)");
        T.yes("cost(0, 8)");
        T.is("plan(0, 1000000000, 1)", 8 + 11);
    }
}
