/** Promise 9 (drawn): which of the drawn numbers there are, and of which draw. */
public final class Promise09Test {
    private static final Bounds T = new Bounds("Promise 9");

    public static void main(String[] args) {
        firstAndLast();
        outsideOfTheDraw();
        nothingWasDrawn();
        latestDraw();
        refusedDraw();
        goneSince();
        noSuchStratum();
        T.end();
    }

    private static void firstAndLast() {
        T.test("The k-th number that was drawn: the first and the last");
        T.given("stratum(100)", "draw(0, 4)");
        T.is("drawn(0, 0)", 7);
        T.is("drawn(0, 3)", 23);
        T.given("draw(0, 1)");
        T.drawn(0, 25);
        T.given("draw(0, 100)");
        T.is("drawn(0, 99)", 85);
        T.refuses("drawn(0, 100)");
    }

    private static void outsideOfTheDraw() {
        T.test("NONE when there is none such: before the first, after the last");
        T.given(States.ORDINARY);
        T.refuses("drawn(0, -1)", "drawn(0, 5)", "drawn(0, 30)", "drawn(0, min)", "drawn(0, max)");
        T.refuses("drawn(1, -1)", "drawn(1, 4)", "drawn(2, 1)");
    }

    private static void nothingWasDrawn() {
        T.test("NONE when there is none such: nothing was drawn");
        T.given("stratum(10)", "stratum(20)", "draw(0, 10)");
        T.refuses("drawn(1, 0)", "drawn(1, -1)");
        T.given("draw(1, 1)");
        T.is("drawn(1, 0)", 3);
        T.given("draw(1, 0)");
        T.refuses("drawn(1, 0)");
    }

    private static void latestDraw() {
        T.test("by its latest draw");
        T.given("stratum(100)", "stratum(10)", "draw(0, 4)");
        T.drawn(0, 7, 49, 57, 23);
        T.given("draw(1, 3)");
        T.drawn(0, 7, 49, 57, 23);
        T.drawn(1, 5, 3, 2);
        T.given("draw(0, 1)");
        T.drawn(0, 75);
        T.drawn(1, 5, 3, 2);
    }

    private static void refusedDraw() {
        T.test("by its latest draw: one that was refused is none");
        T.given("stratum(100)", "draw(0, 4)");
        T.refuses("draw(0, 101)", "draw(0, -1)");
        T.drawn(0, 7, 49, 57, 23);
    }

    private static void goneSince() {
        T.test("also of a stratum that is gone since");
        T.given("stratum(6)", "stratum(7)", "stratum(8)", "draw(0, 2)", "draw(1, 5)");
        T.yes("joined(0, 1)");
        T.drawn(0, 5, 0);
        T.drawn(1, 6, 5, 2, 0, 3);
        T.refuses("drawn(1, 5)", "drawn(1, -1)", "draw(1, 1)");
        T.given("draw(0, 3)");
        T.drawn(0, 6, 1, 4);
        T.drawn(1, 6, 5, 2, 0, 3);
        T.yes("joined(0, 2)");
        T.refuses("drawn(2, 0)");
    }

    private static void noSuchStratum() {
        T.test("NONE when there is none such: the stratum");
        T.refuses("drawn(0, 0)", "drawn(-1, 0)");
        T.given(States.ORDINARY);
        T.refuses("drawn(-1, 0)", "drawn(3, 0)", "drawn(4, 0)", "drawn(min, 0)", "drawn(max, 0)");
        T.anew(0);
        T.given(States.FULL);
        T.refuses("drawn(-1, 0)", "drawn(4, 0)", "drawn(4, -1)");
    }
}
