/** Promise 14 (compared): its kinds and parts, how many bags there may be, and ways that are just as far. */
public final class Promise14Test {
    private static final Bounds T = new Bounds("Promise 14");

    public static void main(String[] args) {
        byHand();
        yearsOfUnequalNumbers();
        bagsOfAllStrata();
        kinds();
        parts();
        yearZeroHasNone();
        yearOneHasNone();
        fewestBags();
        tenAtMost();
        tenThatAreNotMissing();
        atLeastAsFar();
        leastAndGreatest();
        T.end();
    }

    /** One stratum with these bags, of which the last ones are of year 1. */
    private static void givenYears(int firsts, long... grams) {
        T.given("stratum(100)");
        T.givenBags(0, 0, grams);
        for (int bag = firsts; bag < grams.length; bag++) {
            T.yes("year(" + bag + ", 1)");
        }
    }

    private static void isCompared(int firsts, long far, long ways, long... grams) {
        T.anew(0);
        givenYears(firsts, grams);
        T.told("compared", 0, far, ways);
    }

    private static void byHand() {
        T.test("Of all ways to call as many of them as there are of year 0 by that year");
        // {1, 2} and {3, 4} are apart by 2, {1, 3} and {2, 4} by 1, {1, 4} and {2, 3} by 0.
        isCompared(2, 2, 6, 1, 2, 3, 4);
        isCompared(2, 4, 6, 1, 3, 2, 4);
        isCompared(2, 6, 6, 1, 4, 2, 3);
    }

    private static void yearsOfUnequalNumbers() {
        T.test("the others by year 1");
        // 0 is 6 from the mean of {5, 7}, 5 is 3/2 from that of {0, 7}, 7 is 9/2 from that of {0, 5}.
        isCompared(1, 1, 3, 0, 5, 7);
        isCompared(1, 3, 3, 5, 0, 7);
        isCompared(1, 2, 3, 7, 0, 5);
        isCompared(2, 1, 3, 5, 7, 0);
        isCompared(2, 3, 3, 0, 7, 5);
        isCompared(2, 2, 3, 0, 5, 7);
    }

    /** As in byHand: the strata's sizes do not weigh here. */
    private static void bagsOfAllStrata() {
        T.test("of all bags that are not missing");
        T.given("stratum(1)", "stratum(100)", "bag(0)", "bag(1)", "bag(0)", "bag(1)");
        T.yes("weight(0, 0, 1)", "weight(1, 0, 2)", "weight(2, 0, 3)", "weight(3, 0, 4)", "year(2, 1)", "year(3, 1)");
        T.told("compared", 0, 2, 6);
        T.yes("missing(1)");
        // 1 is 5/2 from the mean of {3, 4}, 3 is 1/2 from that of {1, 4}, 4 is 2 from that of {1, 3}.
        T.told("compared", 0, 1, 3);
    }

    private static void kinds() {
        T.test("NONE when there is no such kind");
        T.given(States.ORDINARY);
        T.refuses("compared(-1, 0)", "compared(3, 0)", "compared(4, 1)", "compared(min, 0)", "compared(max, 1)");
        T.anew(0);
        givenYears(1, 0, 5, 7);
        T.yes("weight(1, 1, 9)", "weight(0, 2, 4)", "weight(2, 2, 8)");
        T.told("compared", 0, 1, 3);
        T.told("compared", 1, 3, 3);
        T.told("compared", 2, 3, 3);
        T.refuses("compared(-1, 0)", "compared(3, 0)");
    }

    private static void parts() {
        T.test("NONE when there is no such part");
        T.given(States.ORDINARY);
        T.refuses("compared(0, -1)", "compared(0, 2)", "compared(2, 3)", "compared(0, min)", "compared(0, max)");
    }

    private static void yearZeroHasNone() {
        T.test("NONE when one year has none: year 0");
        givenYears(0, 1, 2, 3);
        T.refuses("compared(0, 0)", "compared(0, 1)");
        T.yes("year(0, 0)");
        T.told("compared", 0, 2, 3);
        T.yes("missing(0)");
        T.refuses("compared(0, 0)", "compared(0, 1)");
    }

    private static void yearOneHasNone() {
        T.test("NONE when one year has none: year 1");
        givenYears(3, 1, 2, 3);
        T.refuses("compared(0, 0)", "compared(0, 1)");
        T.yes("year(2, 1)");
        T.told("compared", 0, 2, 3);
        T.yes("missing(2)");
        T.refuses("compared(0, 0)", "compared(0, 1)");
    }

    private static void fewestBags() {
        T.test("NONE when one year has none: two bags are the fewest, one of each");
        T.given("stratum(1)");
        T.refuses("compared(0, 0)", "compared(0, 1)");
        T.givenBags(0, 0, 3);
        T.refuses("compared(0, 0)", "compared(0, 1)");
        T.givenBags(1, 0, 8);
        T.refuses("compared(0, 0)", "compared(0, 1)");
        T.yes("year(0, 1)");
        T.told("compared", 0, 2, 2);
        T.yes("year(1, 1)");
        T.refuses("compared(0, 0)", "compared(0, 1)");
    }

    private static void tenAtMost() {
        T.test("NONE when there are more than 10");
        givenYears(1, 9, 1, 1, 1, 1, 1, 1, 1, 1);
        T.told("compared", 0, 1, 9);
        T.givenBags(9, 0, 1);
        T.yes("year(9, 1)");
        T.told("compared", 0, 1, 10);
        T.givenBags(10, 0, 1);
        T.refuses("compared(0, 0)", "compared(0, 1)", "compared(2, 0)");
        T.givenBags(11, 0, 1);
        T.refuses("compared(0, 0)", "compared(0, 1)");
    }

    private static void tenThatAreNotMissing() {
        T.test("NONE when there are more than 10 that are not missing");
        givenYears(2, 9, 9, 1, 1, 1, 1, 1, 1, 1, 1, 1, 1);
        T.refuses("compared(0, 0)", "compared(0, 1)");
        T.yes("missing(11)");
        T.refuses("compared(0, 0)", "compared(0, 1)");
        T.yes("missing(0)");
        T.told("compared", 0, 1, 10);
        T.yes("missing(5)");
        T.told("compared", 0, 1, 9);
        T.yes("missing(1)");
        T.refuses("compared(0, 0)", "compared(0, 1)");
    }

    private static void atLeastAsFar() {
        T.test("in how many the means are at least as far apart as they are");
        // 0 and 10 are 15/2 from the mean of the others, one below and one above it; 5 is 0 from it.
        givenYears(1, 0, 10, 5);
        T.told("compared", 0, 2, 3);
        T.yes("weight(1, 0, 11)");
        // 0 is 8 from 8; 11 is 17/2 from 5/2.
        T.told("compared", 0, 2, 3);
        T.yes("weight(1, 0, 9)");
        // 0 is 7 from 7; 9 is 13/2 from 5/2.
        T.told("compared", 0, 1, 3);
        // As they are counts always, and when all are the same, all ways do.
        T.yes("weight(0, 0, 5)", "weight(1, 0, 5)");
        T.told("compared", 0, 3, 3);
    }

    private static void leastAndGreatest() {
        T.test("part 1: how many ways there are");
        long[] ways = {0, 10, 45, 120, 210, 252, 210, 120, 45, 10};
        for (int firsts = 1; firsts < 10; firsts++) {
            T.anew(0);
            givenYears(firsts, 0, 0, 0, 0, 0, 0, 0, 0, 0, 0);
            T.told("compared", 0, ways[firsts], ways[firsts]);
        }
        // All grams that there may be in one year: that way, and when the years are as many, its other side.
        T.anew(0);
        givenYears(5, 0, 0, 0, 0, 0, 10000, 10000, 10000, 10000, 10000);
        T.told("compared", 0, 2, 252);
        T.anew(0);
        givenYears(4, 10000, 10000, 10000, 10000, 0, 0, 0, 0, 0, 0);
        T.told("compared", 0, 1, 210);
    }
}
