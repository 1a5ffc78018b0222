/** Counts the answers that are not as due, prints them, and ends the test with exit code 1 if there was one. */
final class Expect {
    private final String test;
    private int asked;
    private int wrong;

    Expect(String test) {
        this.test = test;
    }

    void same(String call, long got, long due) {
        asked++;
        if (got != due) {
            wrong++;
            System.out.println(test + ": " + call + " answered " + got + ", due is " + due);
        }
    }

    void yes(String what, boolean so) {
        same(what, so ? 1 : 0, 1);
    }

    void no(String what, boolean so) {
        same(what, so ? 1 : 0, 0);
    }

    void end() {
        System.out.println(test + ": " + asked + " answers, " + wrong + " not as due");
        if (wrong != 0 || asked == 0) {
            System.exit(1);
        }
    }
}
