/** Promise 13 (planned): which strata a plan tells of, and when none is held. */
public final class Promise13Test {
    private static final Bounds T = new Bounds("Promise 13");

    public static void main(String[] args) {
        noneIsHeldAtFirst();
        noneIsHeldAfterAPlanThatFoundNone();
        strataThatDidNotCount();
        strataMadeOrGoneSince();
        noSuchStratum();
        T.end();
    }

    /** Two strata of size 1 with a spread of 8 each; plan(0, 3, 1) gives them 1 and 2 bags. */
    private static void givenTwo() {
        T.given("stratum(1)", "stratum(1)");
        T.givenBags(0, 0, 0, 4);
        T.givenBags(2, 1, 0, 4);
    }

    private static void noneIsHeldAtFirst() {
        T.test("NONE when none is held: before the first plan");
        T.refuses("planned(0)");
        givenTwo();
        T.refuses("planned(0)", "planned(1)", "plan(0, -1, 1)", "planned(0)");
        T.is("plan(0, 3, 1)", 3);
        T.planned(1, 2);
    }

    private static void noneIsHeldAfterAPlanThatFoundNone() {
        T.test("NONE when none is held: after a plan that found none");
        givenTwo();
        T.is("plan(0, 3, 1)", 3);
        T.is("plan(0, 0, 1)", -1);
        T.refuses("planned(0)", "planned(1)");
        T.is("plan(1, 0, 1)", 2);
        T.planned(1, 1);
    }

    private static void strataThatDidNotCount() {
        T.test("0 for one that did not count");
        givenTwo();
        T.given("stratum(9)", "stratum(9)");
        T.is("plan(0, 3, 1)", 3);
        T.planned(1, 2, 0, 0);
        // It counts now, but did not when it was planned.
        T.given("bag(3)", "bag(3)");
        T.planned(1, 2, 0, 0);
        T.yes("missing(0)", "missing(1)", "joined(2, 3)");
        // Stratum 2 is 18 of 19 and does not spread; 8 / 361 is left of stratum 1.
        T.is("plan(0, 8, 361)", 2);
        T.planned(0, 1, 1, 0);
    }

    private static void strataMadeOrGoneSince() {
        T.test("How many bags the plan that is held gives a stratum: it stays as it was planned");
        givenTwo();
        T.is("plan(0, 3, 1)", 3);
        T.refuses("planned(2)");
        T.given("stratum(9)");
        T.planned(1, 2, 0);
        T.yes("cost(0, 50)", "weight(0, 0, 4)");
        T.is("draw(0, 1)", 1);
        T.planned(1, 2, 0);
        T.yes("joined(0, 1)");
        T.planned(1, 2, 0);
        T.yes("missing(0)", "missing(1)", "missing(2)", "missing(3)");
        T.planned(1, 2, 0);
    }

    private static void noSuchStratum() {
        T.test("NONE when there is none such");
        givenTwo();
        T.is("plan(0, 3, 1)", 3);
        T.refuses("planned(-1)", "planned(2)", "planned(3)", "planned(4)", "planned(min)", "planned(max)");
        T.given("stratum(1)", "stratum(1)");
        T.planned(1, 2, 0, 0);
        T.refuses("planned(-1)", "planned(4)");
    }
}
