/** Promise 17 (error): its kinds and parts, when there is none, the least and the greatest. */
public final class Promise17Test {
    private static final Bounds T = new Bounds("Promise 17");

    public static void main(String[] args) {
        byHand();
        missingAndMovedBags();
        kinds();
        parts();
        nothingSuch();
        asTheyAreNow();
        leastAndGreatest();
        T.end();
    }

    private static void byHand() {
        T.test("The sorters' error of a kind");
        T.given("stratum(10)");
        T.givenBags(0, 0, 100, 200);
        T.given("repeat(0, 0, 103)");
        T.told("error", 0, 9, 2);
        T.given("repeat(1, 0, 199)");
        T.told("error", 0, 5, 2);
        T.given("repeat(1, 0, 200)");
        T.told("error", 0, 5, 3);
        T.given("repeat(1, 1, 0)");
        T.told("error", 0, 5, 3);
        T.told("error", 1, 0, 1);
    }

    private static void missingAndMovedBags() {
        T.test("of all that was sorted again");
        T.given("stratum(10)", "stratum(10)");
        T.givenBags(0, 0, 100, 200);
        T.given("repeat(0, 0, 102)");
        T.yes("missing(0)");
        T.told("error", 0, 2, 1);
        T.given("repeat(0, 0, 100)");
        T.told("error", 0, 1, 1);
        T.yes("joined(1, 0)");
        T.told("error", 0, 1, 1);
        T.given("repeat(1, 0, 200)");
        T.told("error", 0, 2, 3);
    }

    private static void kinds() {
        T.test("NONE when there is no such kind");
        T.given(States.ORDINARY);
        T.refuses("error(-1, 0)", "error(3, 0)", "error(4, 1)", "error(min, 0)", "error(max, 1)");
        T.anew(0);
        T.given("stratum(1)", "bag(0)", "repeat(0, 0, 2)", "repeat(0, 1, 4)", "repeat(0, 2, 6)");
        T.refuses("error(-1, 0)", "error(3, 0)");
        T.told("error", 0, 2, 1);
        T.told("error", 1, 8, 1);
        T.told("error", 2, 18, 1);
    }

    private static void parts() {
        T.test("NONE when there is no such part");
        T.given(States.ORDINARY);
        T.refuses("error(0, -1)", "error(0, 2)", "error(2, 3)", "error(0, min)", "error(0, max)");
        T.anew(0);
        T.given("stratum(1)", "bag(0)", "repeat(0, 0, 3)");
        T.told("error", 0, 9, 2);
        T.refuses("error(0, -1)", "error(0, 2)");
    }

    private static void nothingSuch() {
        T.test("NONE when there is nothing such");
        T.refuses("error(0, 0)", "error(0, 1)");
        T.given("stratum(1)", "bag(0)", "weight(0, 1, 5)");
        T.refuses("error(0, 0)", "error(1, 0)", "error(2, 1)");
        T.given("repeat(0, 1, 5)");
        T.told("error", 1, 0, 1);
        T.refuses("error(0, 0)", "error(0, 1)", "error(2, 0)", "error(2, 1)");
        // A repeat that was refused is nothing such either.
        T.refuses("repeat(0, 0, 10001)", "repeat(1, 2, 5)");
        T.refuses("error(0, 0)", "error(2, 1)");
        T.given("repeat(0, 2, 0)");
        T.told("error", 2, 0, 1);
        T.refuses("error(0, 0)", "error(0, 1)");
    }

    private static void asTheyAreNow() {
        T.test("the bag's grams as they are now");
        T.given("stratum(1)", "bag(0)", "repeat(0, 0, 3)");
        T.told("error", 0, 9, 2);
        T.yes("weight(0, 0, 3)");
        T.told("error", 0, 0, 1);
        T.refuses("weight(0, 0, -1)", "weight(0, 0, 10001)");
        T.yes("weight(0, 0, 10000)");
        // 9997 * 9997 over 2.
        T.told("error", 0, 99940009, 2);
    }

    private static void leastAndGreatest() {
        T.test("over twice how often: 0, and the farthest forty times");
        T.given("stratum(1)", "bag(0)", "bag(0)", "weight(1, 0, 10000)");
        for (int i = 1; i <= 40; i++) {
            T.is("repeat(" + i % 2 + ", 0, " + (i % 2 == 0 ? 0 : 10000) + ")", i);
        }
        T.told("error", 0, 0, 1);
        T.yes("weight(0, 0, 10000)", "weight(1, 0, 0)");
        T.told("error", 0, 50000000, 1);
        T.yes("weight(1, 0, 1)");
        // Twenty times 10000 * 10000 and twenty times 9999 * 9999, over 80.
        T.told("error", 0, 199980001, 4);
    }
}
