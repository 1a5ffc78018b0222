import java.util.ArrayList;
import java.util.List;

/**
 * All that can be found out about an object: what it answers, and then, by calls that change it, what it holds
 * without telling (sizes, costs, the seed, how many there are). Objects in the same state answer the same.
 */
final class Probe {
    private static final int STRATA = 4;
    private static final int BAGS = 12;
    private static final int KINDS = 3;

    private final Run run;
    private final List<String> answers = new ArrayList<>();

    private Probe(Run run) {
        this.run = run;
    }

    static List<String> of(Run run) {
        Probe probe = new Probe(run);
        probe.askAll();
        probe.askDrawn();
        probe.findSizes();
        probe.findCosts();
        probe.findBags();
        probe.findRepeats();
        probe.findStrata();
        return probe.answers;
    }

    private long ask(String call) {
        long answer = run.answer(call);
        answers.add(call + " answers " + answer);
        return answer;
    }

    private void askParts(String name) {
        for (int kind = 0; kind < KINDS; kind++) {
            ask(name + "(" + kind + ", 0)");
            ask(name + "(" + kind + ", 1)");
        }
    }

    private void askAll() {
        ask("counting()");
        askParts("mean");
        askParts("spread");
        askParts("compared");
        askParts("error");
        for (int s = 0; s < STRATA; s++) {
            ask("planned(" + s + ")");
        }
    }

    private void askDrawn() {
        for (int s = 0; s < STRATA; s++) {
            for (int k : new int[] {0, 1, 2, 3, 4, 5, 99}) {
                ask("drawn(" + s + ", " + k + ")");
            }
        }
    }

    /** The most that can be drawn, by halves; what is drawn then tells the seed too. */
    private void findSizes() {
        for (int s = 0; s < STRATA; s++) {
            int least = 0;
            int most = 100;
            while (least < most) {
                int middle = (least + most + 1) / 2;
                if (ask("draw(" + s + ", " + middle + ")") == middle) {
                    least = middle;
                } else {
                    most = middle - 1;
                }
            }
            ask("drawn(" + s + ", 0)");
        }
    }

    /** Two bags for each stratum, so that it counts and can be planned. */
    private void findCosts() {
        for (int s = 0; s < STRATA; s++) {
            ask("bag(" + s + ")");
            ask("bag(" + s + ")");
            ask("plan(0, 1000000000, 1)");
            ask("planned(" + s + ")");
        }
    }

    /** Fewer and fewer bags, down to two: each one's grams and year are told by what goes with it. */
    private void findBags() {
        for (int bag = BAGS - 1; bag > 1; bag--) {
            ask("missing(" + bag + ")");
            ask("compared(0, 1)");
            for (int kind = 0; kind < KINDS; kind++) {
                ask("mean(" + kind + ", 0)");
            }
        }
        askAll();
    }

    private void findRepeats() {
        for (int kind = 0; kind < KINDS; kind++) {
            ask("repeat(0, " + kind + ", 1234)");
        }
        askParts("error");
    }

    private void findStrata() {
        for (int i = 0; i <= STRATA; i++) {
            ask("stratum(" + (i + 1) + ")");
        }
    }
}
