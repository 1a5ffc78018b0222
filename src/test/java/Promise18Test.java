/** Promise 18 (counting): from none to all four. */
public final class Promise18Test {
    private static final Bounds T = new Bounds("Promise 18");

    public static void main(String[] args) {
        noneToFour();
        lastBagMissing();
        goneStrata();
        T.end();
    }

    private static void noneToFour() {
        T.test("How many strata count: none to four");
        T.is("counting()", 0);
        T.given("stratum(1)", "stratum(100)", "stratum(1)", "stratum(100)");
        T.is("counting()", 0);
        for (int s = 3; s >= 0; s--) {
            T.given("bag(" + s + ")");
            T.is("counting()", 4 - s);
        }
        T.given("bag(0)");
        T.is("counting()", 4);
    }

    private static void lastBagMissing() {
        T.test("counts when it has a bag that is not missing");
        T.given("stratum(1)", "bag(0)", "bag(0)");
        T.is("counting()", 1);
        T.yes("missing(0)");
        T.is("counting()", 1);
        T.yes("missing(1)");
        T.is("counting()", 0);
        T.given("bag(0)");
        T.is("counting()", 1);
    }

    private static void goneStrata() {
        T.test("counts when it is not gone");
        T.given("stratum(1)", "stratum(1)", "stratum(1)", "stratum(1)", "bag(0)", "bag(1)");
        T.is("counting()", 2);
        // The bags of one that is gone make the other one count.
        T.yes("joined(2, 1)");
        T.is("counting()", 2);
        T.yes("joined(2, 3)");
        T.is("counting()", 2);
        T.refuses("joined(2, 1)");
        T.yes("joined(2, 0)");
        T.is("counting()", 1);
        T.yes("missing(0)");
        T.is("counting()", 1);
        T.yes("missing(1)");
        T.is("counting()", 0);
    }
}
