/**
 * A new object whose calls are told as texts, such as "weight(0, 2, 10000)", and counted, for the document promises
 * nothing of a 513th one. The words min and max stand for the least and the greatest number of an argument's type.
 */
final class Run {
    static final int MOST_CALLS = 512;

    private final StratumCounts x;
    private int calls;
    private String[] words;

    Run(long seed) {
        x = new StratumCounts(seed);
    }

    /** What a refused call answers: a boolean one false, any other one NONE. */
    static long refusal(String call) {
        return switch (call.substring(0, call.indexOf('('))) {
            case "cost", "weight", "year", "missing", "joined" -> 0;
            default -> StratumCounts.NONE;
        };
    }

    /** Booleans are told as 1 or 0. */
    long answer(String call) {
        calls++;
        if (calls > MOST_CALLS) {
            throw new IllegalStateException("a test asks an object more than it promises: " + call);
        }
        words = call.split("[(), ]+");
        return switch (words[0]) {
            case "stratum" -> x.stratum(number(1));
            case "cost" -> told(x.cost(number(1), amount(2)));
            case "bag" -> x.bag(number(1));
            case "weight" -> told(x.weight(number(1), number(2), amount(3)));
            case "year" -> told(x.year(number(1), number(2)));
            case "missing" -> told(x.missing(number(1)));
            case "draw" -> x.draw(number(1), number(2));
            case "drawn" -> x.drawn(number(1), number(2));
            case "mean" -> x.mean(number(1), number(2));
            case "spread" -> x.spread(number(1), number(2));
            case "plan" -> x.plan(number(1), amount(2), amount(3));
            case "planned" -> x.planned(number(1));
            case "compared" -> x.compared(number(1), number(2));
            case "joined" -> told(x.joined(number(1), number(2)));
            case "repeat" -> x.repeat(number(1), number(2), amount(3));
            case "error" -> x.error(number(1), number(2));
            case "counting" -> x.counting();
            default -> throw new IllegalStateException("no such call: " + call);
        };
    }

    private static long told(boolean answer) {
        return answer ? 1 : 0;
    }

    private int number(int at) {
        return switch (words[at]) {
            case "min" -> Integer.MIN_VALUE;
            case "max" -> Integer.MAX_VALUE;
            default -> Integer.parseInt(words[at]);
        };
    }

    private long amount(int at) {
        return switch (words[at]) {
            case "min" -> Long.MIN_VALUE;
            case "max" -> Long.MAX_VALUE;
            default -> Long.parseLong(words[at]);
        };
    }
}
