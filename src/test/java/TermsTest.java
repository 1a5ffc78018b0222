import java.util.ArrayList;
import java.util.List;

/** The document's Terms: each bound that they give, for every call that takes such an argument. */
public final class TermsTest {
    private static final Bounds T = new Bounds("Terms");
    private static final String[] WITH_KIND_AND_PART = {"mean", "spread", "compared", "error"};
    private static final String[] OUTSIDE_OF_STRATA = {"-1", "4", "min", "max"};
    private static final String[] OUTSIDE_OF_BAGS = {"-1", "12", "min", "max"};
    private static final String[] OUTSIDE_OF_KINDS = {"-1", "3", "min", "max"};
    private static final String[] OUTSIDE_OF_PARTS = {"-1", "2", "min", "max"};
    private static final String[] OUTSIDE_OF_GRAMS = {"-1", "10001", "min", "max"};

    public static void main(String[] args) {
        strataFromFirstToLast();
        sizesOfStrata();
        firstCost();
        bagsFromFirstToLast();
        yearsOfBags();
        gramsOfBags();
        kindsFromFirstToLast();
        partsOfFractions();
        zeroOverOne();
        lowestTerms();
        weightsOfStrataThatCount();
        twoBagsOrMore();
        bagsOfAPlan();
        refusedOnANewObject();
        refusedOnAnOrdinaryObject();
        refusedOnAFullObject();
        T.end();
    }

    private static void strataFromFirstToLast() {
        T.test("STRATA are numbered from 0 on, 4 at most (promises 2, 3, 4, 8, 9, 13 and 15)");
        for (int s = 0; s < 4; s++) {
            T.is("stratum(10)", s);
        }
        T.refuses("stratum(10)");
        for (String wrong : OUTSIDE_OF_STRATA) {
            T.refuses(withStratum(wrong));
        }
        for (int s : new int[] {0, 3}) {
            T.given("cost(" + s + ", 1)", "bag(" + s + ")", "bag(" + s + ")", "draw(" + s + ", 1)",
                "drawn(" + s + ", 0)", "plan(0, 0, 1)", "planned(" + s + ")");
        }
        for (String wrong : OUTSIDE_OF_STRATA) {
            T.refuses(withStratum(wrong));
        }
        T.yes("joined(0, 3)");
    }

    private static String[] withStratum(String stratum) {
        return new String[] {"cost(" + stratum + ", 1)", "bag(" + stratum + ")", "draw(" + stratum + ", 1)",
            "drawn(" + stratum + ", 0)", "planned(" + stratum + ")", "joined(0, " + stratum + ")",
            "joined(" + stratum + ", 0)"};
    }

    private static void sizesOfStrata() {
        T.test("each of a SIZE, 1 .. 100 (promises 2, 8 and 15)");
        T.refuses("stratum(0)", "stratum(101)");
        T.is("stratum(1)", 0);
        T.is("stratum(100)", 1);
        T.is("stratum(99)", 2);
        T.refuses("joined(1, 0)", "draw(0, 2)", "draw(1, 101)", "draw(2, 100)");
        T.yes("joined(2, 0)");
        T.is("draw(2, 100)", 100);
        T.refuses("draw(2, 101)");
    }

    private static void firstCost() {
        T.test("a COST of a bag (1 at first) (promises 3 and 12)");
        for (int s = 0; s < 4; s++) {
            T.given("stratum(10)", "bag(" + s + ")", "bag(" + s + ")");
            T.is("plan(0, 0, 1)", s + 1);
        }
    }

    private static void bagsFromFirstToLast() {
        T.test("BAGS are numbered from 0 on, 12 at most (promises 4, 5, 6, 7 and 16)");
        T.given("stratum(10)");
        for (int bag = 0; bag < 12; bag++) {
            T.is("bag(0)", bag);
        }
        T.refuses("bag(0)");
        for (String wrong : OUTSIDE_OF_BAGS) {
            T.refuses("weight(" + wrong + ", 0, 1)", "year(" + wrong + ", 1)", "missing(" + wrong + ")",
                "repeat(" + wrong + ", 0, 1)");
        }
        for (int bag : new int[] {0, 11}) {
            T.given("weight(" + bag + ", 0, 1)", "year(" + bag + ", 1)", "repeat(" + bag + ", 0, 1)",
                "missing(" + bag + ")");
        }
    }

    private static void yearsOfBags() {
        T.test("of a YEAR, 0 or 1 (0 at first) (promises 6 and 14)");
        T.given("stratum(10)", "bag(0)", "bag(0)", "bag(0)");
        T.refuses("compared(0, 1)", "year(0, -1)", "year(0, 2)");
        T.yes("year(0, 1)");
        T.is("compared(0, 1)", 3);
        T.yes("year(0, 0)");
        T.refuses("compared(0, 1)");
    }

    private static void gramsOfBags() {
        T.test("with grams 0 .. 10000 (0 at first) (promises 5 and 16)");
        T.given("stratum(10)", "bag(0)");
        for (int kind = 0; kind < 3; kind++) {
            T.told("mean", kind, 0, 1);
        }
        for (String wrong : OUTSIDE_OF_GRAMS) {
            T.refuses("weight(0, 0, " + wrong + ")", "repeat(0, 0, " + wrong + ")");
        }
        T.yes("weight(0, 0, 10000)");
        T.told("mean", 0, 10000, 1);
        T.is("repeat(0, 0, 0)", 1);
        T.told("error", 0, 50000000, 1);
        T.yes("weight(0, 0, 0)");
        T.is("repeat(0, 0, 10000)", 2);
        T.told("error", 0, 25000000, 1);
    }

    private static void kindsFromFirstToLast() {
        T.test("of each KIND, 0 .. 2 (promises 5, 10, 11, 12, 14, 16 and 17)");
        T.given(States.ORDINARY);
        for (String wrong : OUTSIDE_OF_KINDS) {
            T.refuses("weight(0, " + wrong + ", 1)", "repeat(0, " + wrong + ", 1)", "plan(" + wrong + ", 1, 1)");
            for (String name : WITH_KIND_AND_PART) {
                T.refuses(name + "(" + wrong + ", 0)", name + "(" + wrong + ", 1)");
            }
        }
        for (int kind : new int[] {0, 2}) {
            T.given("weight(0, " + kind + ", 1)", "repeat(0, " + kind + ", 1)", "plan(" + kind + ", 1000000000, 1)");
            for (String name : WITH_KIND_AND_PART) {
                T.given(name + "(" + kind + ", 0)", name + "(" + kind + ", 1)");
            }
        }
    }

    private static void partsOfFractions() {
        T.test("Fractions are told by parts, 0 above, 1 below (promises 10, 11, 14 and 17)");
        T.given(States.ORDINARY);
        for (String name : WITH_KIND_AND_PART) {
            for (String wrong : OUTSIDE_OF_PARTS) {
                T.refuses(name + "(0, " + wrong + ")");
            }
            T.given(name + "(0, 0)", name + "(0, 1)");
        }
    }

    private static void zeroOverOne() {
        T.test("0 is 0 over 1 (promises 10, 11 and 17)");
        T.given("stratum(97)", "stratum(89)", "bag(0)", "bag(0)", "bag(0)", "bag(1)", "bag(1)", "repeat(0, 0, 0)",
            "repeat(1, 0, 0)", "repeat(2, 0, 0)");
        T.told("mean", 0, 0, 1);
        T.told("spread", 0, 0, 1);
        T.told("error", 0, 0, 1);
        T.yes("weight(4, 0, 1)");
        T.told("mean", 0, 89, 372);
        T.told("spread", 0, 7921, 138384);
        T.yes("weight(2, 0, 1)");
        T.told("error", 0, 1, 6);
    }

    private static void lowestTerms() {
        T.test("in lowest terms (promises 10, 11 and 17)");
        T.given("stratum(10)");
        T.givenBags(0, 0, 2, 4, 6, 12);
        T.told("mean", 0, 6, 1);
        // 56 / 3 / 4
        T.told("spread", 0, 14, 3);
        T.given("repeat(0, 0, 4)", "repeat(1, 0, 6)", "repeat(2, 0, 8)");
        // 12 / 6
        T.told("error", 0, 2, 1);
        // A count of ways is no fraction: 6 of 6 stay so.
        T.yes("weight(1, 1, 8)", "weight(3, 1, 8)", "year(2, 1)", "year(3, 1)");
        T.told("compared", 1, 6, 6);
    }

    private static void weightsOfStrataThatCount() {
        T.test("its size over the sizes of all that count, together (promises 10 and 11)");
        T.given("stratum(1)", "stratum(100)", "stratum(3)");
        T.givenBags(0, 0, 0, 8);
        T.told("mean", 0, 4, 1);
        T.told("spread", 0, 16, 1);
        T.givenBags(2, 2, 8, 8);
        T.told("mean", 0, 7, 1);
        T.told("spread", 0, 1, 1);
        T.yes("missing(2)", "missing(3)");
        T.told("mean", 0, 4, 1);
        T.told("spread", 0, 16, 1);
    }

    private static void twoBagsOrMore() {
        T.test("when it has two such bags or more (promise 11)");
        T.given("stratum(1)");
        T.givenBags(0, 0, 0);
        T.refuses("spread(0, 0)");
        T.givenBags(1, 0, 8);
        T.told("spread", 0, 16, 1);
        T.yes("missing(0)");
        T.refuses("spread(0, 0)");
    }

    private static void bagsOfAPlan() {
        T.test("A PLAN gives each stratum that counts 1 .. 6 bags (promises 12 and 13)");
        T.given("stratum(1)", "stratum(1)");
        T.givenBags(0, 0, 0, 6);
        T.is("plan(0, 1000000000, 1)", 1);
        T.planned(1, 0);
        T.is("plan(0, 3, 1)", 6);
        T.planned(6, 0);
        T.is("plan(0, 2999, 1000)", -1);
    }

    /** Calls that are refused in whichever state; with a new object all that name a stratum or a bag are. */
    private static List<String> alwaysRefused() {
        List<String> calls = new ArrayList<>(List.of("stratum(0)", "stratum(101)", "cost(0, 0)", "cost(0, 100001)",
            "year(0, -1)", "year(0, 2)", "draw(0, -1)", "draw(0, 101)", "drawn(0, -1)", "drawn(0, 100)",
            "plan(0, -1, 1)", "plan(0, 1000000001, 1)", "plan(0, 1, 0)", "plan(0, 1, 1001)", "plan(3, 1, 1)",
            "weight(0, -1, 1)", "weight(0, 3, 1)", "weight(0, 0, -1)", "weight(0, 0, 10001)", "joined(0, 0)",
            "repeat(0, -1, 1)", "repeat(0, 3, 1)", "repeat(0, 0, -1)", "repeat(0, 0, 10001)"));
        for (String wrong : OUTSIDE_OF_STRATA) {
            calls.addAll(List.of(withStratum(wrong)));
        }
        for (String wrong : OUTSIDE_OF_BAGS) {
            calls.addAll(List.of("weight(" + wrong + ", 0, 1)", "year(" + wrong + ", 1)", "missing(" + wrong + ")",
                "repeat(" + wrong + ", 0, 1)"));
        }
        for (String name : WITH_KIND_AND_PART) {
            calls.addAll(List.of(name + "(-1, 0)", name + "(3, 0)", name + "(0, -1)", name + "(0, 2)"));
        }
        return calls;
    }

    private static void refusedOnANewObject() {
        T.test("A call that is refused changes nothing: on a new object");
        T.refuses(alwaysRefused().toArray(new String[0]));
        T.refuses("cost(0, 1)", "bag(0)", "weight(0, 0, 1)", "year(0, 1)", "missing(0)", "draw(0, 0)", "drawn(0, 0)",
            "mean(0, 0)", "spread(0, 0)", "plan(0, 1, 1)", "planned(0)", "compared(0, 0)", "joined(0, 1)",
            "repeat(0, 0, 1)", "error(0, 0)");
    }

    private static void refusedOnAnOrdinaryObject() {
        T.test("A call that is refused changes nothing: on an object with some of all");
        T.given(States.ORDINARY);
        T.refuses(alwaysRefused().toArray(new String[0]));
        T.refuses("cost(3, 1)", "bag(3)", "weight(8, 0, 1)", "year(8, 1)", "missing(8)", "draw(3, 0)", "draw(0, 31)",
            "drawn(3, 0)", "drawn(0, 5)", "planned(3)", "joined(0, 3)", "joined(3, 0)", "repeat(8, 0, 1)");
    }

    private static void refusedOnAFullObject() {
        T.test("A call that is refused changes nothing: on a full object, with one stratum gone and bags missing");
        T.given(States.FULL);
        T.refuses(alwaysRefused().toArray(new String[0]));
        T.refuses("stratum(1)", "bag(0)", "bag(3)", "cost(3, 1)", "draw(3, 1)", "draw(0, 11)", "drawn(3, 4)",
            "missing(5)", "missing(11)", "joined(0, 3)", "joined(3, 0)", "joined(2, 0)", "repeat(0, 0, 1)");
    }
}
