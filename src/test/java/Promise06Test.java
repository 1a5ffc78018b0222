/** Promise 6 (year): which bags and years are taken. */
public final class Promise06Test {
    private static final Bounds T = new Bounds("Promise 6");

    public static void main(String[] args) {
        years();
        bags();
        T.end();
    }

    private static void years() {
        T.test("Answers true, or false: the year");
        T.given("stratum(1)", "bag(0)", "bag(0)", "bag(0)");
        T.refuses("year(1, -1)", "year(1, 2)", "year(1, min)", "year(1, max)");
        T.refuses("compared(0, 1)");
        T.yes("year(1, 1)");
        T.is("compared(0, 1)", 3);
        T.refuses("year(1, -1)", "year(1, 2)", "year(0, -1)", "year(0, 2)");
        T.yes("year(1, 1)");
        T.is("compared(0, 1)", 3);
        T.yes("year(1, 0)");
        T.refuses("compared(0, 1)");
        T.yes("year(1, 0)");
        T.refuses("compared(0, 1)");
    }

    private static void bags() {
        T.test("Answers true, or false: the bag");
        T.refuses("year(0, 0)", "year(0, 1)");
        T.given(States.ORDINARY);
        T.refuses("year(-1, 1)", "year(8, 1)", "year(8, 0)", "year(12, 1)", "year(min, 1)", "year(max, 1)");
        // Bags 1, 4 and 6 are of year 1.
        T.is("compared(0, 1)", 56);
        T.yes("year(7, 1)");
        T.is("compared(0, 1)", 70);
        T.yes("year(0, 1)");
        T.is("compared(0, 1)", 56);
        // The refused year of a bag that was not there yet is not its year later: it is the fourth of year 0.
        T.given("bag(0)");
        T.is("compared(0, 1)", 126);
        T.refuses("year(9, 1)");
        T.anew(0);
        T.given(States.FULL);
        T.yes("year(11, 1)");
        T.refuses("year(12, 1)");
    }
}
