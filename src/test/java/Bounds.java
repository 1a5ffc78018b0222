import java.util.ArrayList;
import java.util.List;

/** Tests of the document's bounds, each one begun by the words of the document that it tests. */
final class Bounds {
    private final String promise;
    private final Expect expect;
    private int tests;
    private String words;
    private long seed;
    private Run run;
    private final List<String> calls = new ArrayList<>();

    /** The promise with its number, such as "Promise 2". */
    Bounds(String promise) {
        this.promise = promise;
        this.expect = new Expect(promise);
    }

    void test(String newWords) {
        test(newWords, 0);
    }

    /** Begins a test, with a new object. */
    void test(String newWords, long newSeed) {
        tests++;
        words = newWords;
        anew(newSeed);
    }

    /** Goes on in the same test with another new object. */
    void anew(long newSeed) {
        seed = newSeed;
        run = new Run(seed);
        calls.clear();
    }

    private long make(String call) {
        calls.add(call);
        return run.answer(call);
    }

    void is(String call, long due) {
        int before = calls.size();
        same(call, before, make(call), due);
    }

    private void same(String call, int before, long got, long due) {
        expect.same("\"" + words + "\": after " + before + " calls " + call, got, due);
    }

    void yes(String... some) {
        for (String call : some) {
            is(call, 1);
        }
    }

    void holds(String what, boolean so) {
        expect.yes("\"" + words + "\": " + what, so);
    }

    /** A fraction's two parts. */
    void told(String name, int kind, long above, long below) {
        is(name + "(" + kind + ", 0)", above);
        is(name + "(" + kind + ", 1)", below);
    }

    void planned(long... due) {
        for (int s = 0; s < due.length; s++) {
            is("planned(" + s + ")", due[s]);
        }
    }

    /** Numbers in the order in which they were drawn, and no more. */
    void drawn(int stratum, long... due) {
        for (int k = 0; k < due.length; k++) {
            is("drawn(" + stratum + ", " + k + ")", due[k]);
        }
        is("drawn(" + stratum + ", " + due.length + ")", StratumCounts.NONE);
    }

    /** What a test begins from: none of these calls may be refused. */
    void given(String... some) {
        for (String call : some) {
            holds("is taken: " + call, make(call) != Run.refusal(call));
        }
    }

    /** A bag of a stratum, with grams of kind 0, for each of the grams. */
    void givenBags(int firstNumber, int stratum, long... grams) {
        for (int i = 0; i < grams.length; i++) {
            is("bag(" + stratum + ")", firstNumber + i);
            yes("weight(" + (firstNumber + i) + ", 0, " + grams[i] + ")");
        }
    }

    /** Each of these calls answers NONE or false, and an object that was asked it is as one that was not. */
    void refuses(String... some) {
        for (String call : some) {
            Run asked = again();
            same(call, calls.size(), asked.answer(call), Run.refusal(call));
            sameState(call, Probe.of(asked), Probe.of(again()));
            make(call);
        }
    }

    private Run again() {
        Run twin = new Run(seed);
        for (String call : calls) {
            twin.answer(call);
        }
        return twin;
    }

    private void sameState(String call, List<String> asked, List<String> unasked) {
        for (int i = 0; i < asked.size(); i++) {
            if (!asked.get(i).equals(unasked.get(i))) {
                holds(call + " has changed the object: " + asked.get(i) + ", without it " + unasked.get(i), false);
                return;
            }
        }
    }

    void end() {
        System.out.println(promise + ": " + tests + " tests");
        expect.end();
    }
}
