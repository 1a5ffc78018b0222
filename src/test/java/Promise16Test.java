/** Promise 16 (repeat): which bags, kinds and grams are taken, and how often. */
public final class Promise16Test {
    private static final Bounds T = new Bounds("Promise 16");

    public static void main(String[] args) {
        bags();
        kinds();
        leastGrams();
        greatestGrams();
        countsAllKinds();
        gramsStay();
        fortyTimes();
        T.end();
    }

    private static void bags() {
        T.test("NONE when these are not such: the bag");
        T.refuses("repeat(0, 0, 0)");
        T.given(States.ORDINARY);
        T.refuses("repeat(-1, 0, 7)", "repeat(8, 0, 7)", "repeat(12, 0, 7)", "repeat(min, 0, 7)", "repeat(max, 0, 7)");
        T.is("repeat(0, 0, 7)", 4);
        T.is("repeat(7, 0, 7)", 5);
        T.given("bag(0)");
        T.is("repeat(8, 0, 7)", 6);
        T.refuses("repeat(9, 0, 7)");
    }

    private static void kinds() {
        T.test("NONE when these are not such: the kind");
        T.given(States.ORDINARY);
        T.refuses("repeat(0, -1, 7)", "repeat(0, 3, 7)", "repeat(0, 4, 7)", "repeat(0, min, 7)", "repeat(0, max, 7)");
        T.is("repeat(0, 0, 7)", 4);
        T.is("repeat(0, 2, 7)", 5);
    }

    private static void leastGrams() {
        T.test("NONE when these are not such: grams below 0");
        T.given("stratum(1)", "bag(0)", "weight(0, 0, 2)");
        T.refuses("repeat(0, 0, -1)", "repeat(0, 0, min)");
        T.refuses("error(0, 0)");
        T.is("repeat(0, 0, 0)", 1);
        T.told("error", 0, 2, 1);
        T.refuses("repeat(0, 0, -1)");
    }

    private static void greatestGrams() {
        T.test("NONE when these are not such: grams above 10000");
        T.given("stratum(1)", "bag(0)", "weight(0, 0, 9998)");
        // The last one is 5 in its lower 32 bits.
        T.refuses("repeat(0, 0, 10001)", "repeat(0, 0, max)", "repeat(0, 0, 4294967301)");
        T.refuses("error(0, 0)");
        T.is("repeat(0, 0, 10000)", 1);
        T.told("error", 0, 2, 1);
        T.refuses("repeat(0, 0, 10001)");
    }

    private static void countsAllKinds() {
        T.test("Answers how often bags were sorted again so far (of all kinds)");
        T.given("stratum(1)", "bag(0)", "bag(0)");
        T.is("repeat(0, 0, 0)", 1);
        T.is("repeat(0, 1, 0)", 2);
        T.is("repeat(0, 2, 0)", 3);
        T.refuses("repeat(0, 3, 0)", "repeat(2, 0, 0)", "repeat(0, 0, 10001)");
        T.is("repeat(1, 0, 0)", 4);
        T.is("repeat(1, 0, 0)", 5);
    }

    private static void gramsStay() {
        T.test("as another sorter found them");
        T.given("stratum(1)");
        T.givenBags(0, 0, 5, 6);
        T.given("repeat(0, 0, 0)", "repeat(1, 0, 10000)");
        T.told("mean", 0, 11, 2);
    }

    private static void fortyTimes() {
        T.test("NONE when it was 40 times");
        T.given("stratum(1)", "bag(0)", "bag(0)");
        for (int i = 1; i <= 39; i++) {
            T.is("repeat(0, 0, 0)", i);
        }
        T.told("error", 0, 0, 1);
        T.is("repeat(1, 0, 20)", 40);
        // 400 over twice 40.
        T.told("error", 0, 5, 1);
        T.refuses("repeat(0, 0, 0)", "repeat(1, 0, 20)", "repeat(0, 1, 0)", "repeat(1, 2, 0)");
        T.told("error", 0, 5, 1);
        T.refuses("error(1, 0)", "error(2, 0)");
        T.anew(0);
        T.given(States.FULL);
        T.refuses("repeat(0, 0, 0)", "repeat(11, 2, 10000)");
    }
}
