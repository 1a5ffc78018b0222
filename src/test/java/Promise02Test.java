/** Promise 2 (stratum): how many strata there may be, and of which sizes. */
public final class Promise02Test {
    private static final Bounds T = new Bounds("Promise 2");

    public static void main(String[] args) {
        numbersFromTheFirstToTheLast();
        fourAtMost();
        fourWithOneThatIsGone();
        leastSize();
        greatestSize();
        wrongSizes();
        T.end();
    }

    private static void numbersFromTheFirstToTheLast() {
        T.test("Answers its number");
        for (int s = 0; s < 4; s++) {
            T.refuses("draw(" + s + ", 0)");
            T.is("stratum(9)", s);
            T.is("draw(" + s + ", 9)", 9);
        }
    }

    private static void fourAtMost() {
        T.test("NONE when there are 4");
        T.given("stratum(1)", "stratum(2)", "stratum(3)");
        T.is("stratum(4)", 3);
        T.given("cost(0, 5)", "cost(1, 6)", "cost(2, 7)", "cost(3, 8)");
        T.refuses("stratum(5)", "stratum(1)", "stratum(100)");
        T.refuses("bag(4)", "draw(4, 1)");
        T.anew(0);
        T.given(States.FULL);
        T.refuses("stratum(1)", "stratum(100)");
    }

    private static void fourWithOneThatIsGone() {
        T.test("NONE when there are 4, one of them gone");
        T.given("stratum(1)", "stratum(2)", "stratum(3)");
        T.yes("joined(0, 2)");
        T.is("stratum(5)", 3);
        T.refuses("stratum(6)");
        T.yes("joined(0, 3)");
        T.refuses("stratum(6)");
    }

    private static void leastSize() {
        T.test("NONE when the size is not such: below 1");
        T.given(States.ORDINARY);
        T.refuses("stratum(0)", "stratum(-1)", "stratum(min)");
        T.is("stratum(1)", 3);
        T.is("draw(3, 1)", 1);
        T.drawn(3, 0);
        T.refuses("draw(3, 2)");
    }

    private static void greatestSize() {
        T.test("NONE when the size is not such: above 100");
        T.given(States.ORDINARY);
        T.refuses("stratum(101)", "stratum(max)");
        T.is("stratum(100)", 3);
        T.is("draw(3, 100)", 100);
        T.refuses("draw(3, 101)");
    }

    private static void wrongSizes() {
        T.test("NONE when the size is not such: it takes no number");
        for (int s = 0; s < 4; s++) {
            T.refuses("stratum(0)", "stratum(101)");
            T.is("stratum(100)", s);
        }
        T.refuses("stratum(0)", "stratum(101)");
    }
}
