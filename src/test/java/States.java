import java.util.ArrayList;
import java.util.List;

/** Calls that lead to states in which a change of anything can be seen. None of them is refused. */
final class States {
    /** Three strata, eight bags of both years, draws, three repeats and a plan that is held. */
    static final String[] ORDINARY = ordinary();
    /** Four strata, twelve bags and forty repeats; stratum 3 is gone to 2, bags 5 and 11 are missing. */
    static final String[] FULL = full();

    private States() {
    }

    private static String[] ordinary() {
        List<String> calls = new ArrayList<>(List.of("stratum(30)", "stratum(50)", "stratum(20)",
            "cost(0, 7)", "cost(1, 11)", "cost(2, 13)"));
        addBags(calls, 0, 0, 0, 1, 1, 1, 2, 2);
        calls.addAll(List.of("year(1, 1)", "year(4, 1)", "year(6, 1)", "draw(0, 5)", "draw(1, 4)", "draw(2, 1)",
            "repeat(0, 0, 110)", "repeat(3, 1, 5)", "repeat(7, 2, 9)", "plan(0, 600000, 1)"));
        return calls.toArray(new String[0]);
    }

    private static String[] full() {
        List<String> calls = new ArrayList<>(List.of("stratum(10)", "stratum(60)", "stratum(70)", "stratum(30)",
            "cost(0, 5)", "cost(1, 9)", "cost(2, 21)"));
        addBags(calls, 0, 0, 0, 1, 1, 1, 2, 2, 2, 3, 3, 3);
        for (int i = 0; i < 40; i++) {
            calls.add("repeat(" + i % 12 + ", " + i % 3 + ", " + 250 * i + ")");
        }
        calls.addAll(List.of("year(2, 1)", "year(7, 1)", "year(9, 1)", "draw(0, 10)", "draw(1, 3)", "draw(2, 2)",
            "draw(3, 4)", "joined(2, 3)", "missing(5)", "missing(11)", "plan(0, 1000000000, 1)"));
        return calls.toArray(new String[0]);
    }

    /** Bags of these strata, whose grams are far apart and different for each kind. */
    private static void addBags(List<String> calls, int... strata) {
        for (int bag = 0; bag < strata.length; bag++) {
            calls.add("bag(" + strata[bag] + ")");
            for (int kind = 0; kind < 3; kind++) {
                int grams = (bag * bag * 379 + kind * 1013 + bag * 97 + 11) % 10001;
                calls.add("weight(" + bag + ", " + kind + ", " + grams + ")");
            }
        }
    }
}
