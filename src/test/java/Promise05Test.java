/** Promise 5 (weight): which bags, kinds and grams are taken. */
public final class Promise05Test {
    private static final Bounds T = new Bounds("Promise 5");

    public static void main(String[] args) {
        ofEachBagAndKind();
        leastGrams();
        greatestGrams();
        kinds();
        bags();
        T.end();
    }

    private static void ofEachBagAndKind() {
        T.test("A bag's grams of a kind");
        T.given("stratum(10)", "bag(0)", "bag(0)");
        T.yes("weight(0, 0, 10)", "weight(0, 1, 7)", "weight(1, 2, 3)");
        T.told("mean", 0, 5, 1);
        T.told("mean", 1, 7, 2);
        T.told("mean", 2, 3, 2);
        T.yes("weight(0, 1, 9)");
        T.told("mean", 0, 5, 1);
        T.told("mean", 1, 9, 2);
    }

    private static void leastGrams() {
        T.test("false when these are not such: grams below 0");
        T.given(States.ORDINARY);
        T.refuses("weight(0, 0, -1)", "weight(0, 0, min)");
        T.anew(0);
        T.given("stratum(1)", "bag(0)", "weight(0, 0, 5)");
        T.yes("weight(0, 0, 1)");
        T.told("mean", 0, 1, 1);
        T.yes("weight(0, 0, 0)");
        T.told("mean", 0, 0, 1);
        T.refuses("weight(0, 0, -1)");
    }

    private static void greatestGrams() {
        T.test("false when these are not such: grams above 10000");
        T.given(States.ORDINARY);
        // The last one is 5 in its lower 32 bits.
        T.refuses("weight(7, 2, 10001)", "weight(7, 2, max)", "weight(7, 2, 4294967301)");
        T.anew(0);
        T.given("stratum(1)", "bag(0)", "weight(0, 0, 5)");
        T.yes("weight(0, 0, 9999)");
        T.told("mean", 0, 9999, 1);
        T.yes("weight(0, 0, 10000)");
        T.told("mean", 0, 10000, 1);
        T.refuses("weight(0, 0, 10001)");
    }

    private static void kinds() {
        T.test("false when these are not such: the kind");
        T.given(States.ORDINARY);
        T.refuses("weight(1, -1, 7)", "weight(1, 3, 7)", "weight(1, 4, 7)", "weight(1, min, 7)", "weight(1, max, 7)");
        // The kind before the first of bag 0 and the one past the last of bag 7 lie outside of all rows.
        T.refuses("weight(0, -1, 7)", "weight(7, 3, 7)");
        T.anew(0);
        T.given("stratum(1)", "bag(0)");
        T.yes("weight(0, 0, 21)", "weight(0, 1, 22)", "weight(0, 2, 23)");
        T.told("mean", 0, 21, 1);
        T.told("mean", 1, 22, 1);
        T.told("mean", 2, 23, 1);
    }

    private static void bags() {
        T.test("false when these are not such: the bag");
        T.refuses("weight(0, 0, 7)");
        T.given(States.ORDINARY);
        T.refuses("weight(-1, 0, 7)", "weight(8, 0, 7)", "weight(12, 0, 7)", "weight(min, 0, 7)", "weight(max, 0, 7)");
        T.yes("weight(0, 0, 7)", "weight(7, 0, 7)");
        // What was refused for a bag that was not there yet is not in it later.
        T.given("stratum(1)", "bag(3)");
        for (int bag = 0; bag < 8; bag++) {
            T.yes("missing(" + bag + ")");
        }
        T.told("mean", 0, 0, 1);
        T.yes("weight(8, 0, 7)");
        T.told("mean", 0, 7, 1);
        T.refuses("weight(9, 0, 7)");
        T.anew(0);
        T.given(States.FULL);
        T.yes("weight(11, 2, 7)");
        T.refuses("weight(12, 0, 7)");
    }
}
