import java.util.Random;

/**
 * All promises: runs of 512 calls, made by fixed seeds, on an object and on the Model. Arguments are mostly such as
 * the document takes, at its edges often, and sometimes wrong ones, so that refused calls stand between the others.
 */
public final class ModelTest {
    private static final int RUNS = 400;
    private static final int CALLS = 512;
    private static final Expect E = new Expect("ModelTest");
    private static final int[] WRONG = {-1, -2, 3, 4, 12, 13, 100, 101, Integer.MIN_VALUE, Integer.MAX_VALUE};
    private static final long[] WRONG_LONGS = {-1, 10001, 100001, 1000000001, 1L << 32, 1L << 32 | 1, Long.MIN_VALUE,
        Long.MAX_VALUE};

    private final Random random;
    private final StratumCounts x;
    private final Model due;
    private final String run;
    private final int readiness;

    private ModelTest(long number) {
        random = new Random(number);
        long seed = number % 5 == 0 ? number : random.nextLong();
        x = new StratumCounts(seed);
        due = new Model(seed);
        run = "run " + number + ": ";
        // Runs in which strata are lost seldom, so that plans and comparisons of many bags are tried too.
        readiness = (int) (number % 3);
    }

    public static void main(String[] args) {
        for (long number = 0; number < RUNS; number++) {
            new ModelTest(number).go();
        }
        E.end();
    }

    private void go() {
        for (int call = 0; call < CALLS; call++) {
            int turn = random.nextInt(100);
            if (call < 40) {
                build(turn);
            } else if (turn < 30) {
                change(random.nextInt(10));
            } else {
                ask(random.nextInt(9));
            }
        }
    }

    private boolean rarely() {
        return random.nextInt(25) == 0;
    }

    private int upTo(int most) {
        return rarely() ? WRONG[random.nextInt(WRONG.length)] : random.nextInt(most + 1);
    }

    private int kind() {
        return upTo(2);
    }

    private int part() {
        return upTo(1);
    }

    private int aStratum() {
        return upTo(3);
    }

    private int aBag() {
        return upTo(11);
    }

    private long longUpTo(long most) {
        return switch (random.nextInt(12)) {
            case 0 -> 0;
            case 1 -> most;
            case 2 -> 1;
            case 3 -> rarely() ? WRONG_LONGS[random.nextInt(WRONG_LONGS.length)] : most - 1;
            case 4, 5 -> random.nextInt(10);
            default -> random.nextLong(most + 1);
        };
    }

    private long grams() {
        return readiness == 0 && random.nextInt(3) > 0 ? 10000L * random.nextInt(2) : longUpTo(10000);
    }

    private void same(String call, long got, long want) {
        E.same(run + call, got, want);
    }

    private void same(String call, boolean got, boolean want) {
        same(call, got ? 1 : 0, want ? 1 : 0);
    }

    private void build(int turn) {
        if (turn < 15) {
            int size = rarely() ? upTo(101) : random.nextInt(2) == 0 ? 1 + random.nextInt(30) : 90 + random.nextInt(11);
            same("stratum(" + size + ")", x.stratum(size), due.stratum(size));
        } else if (turn < 45) {
            int s = aStratum();
            same("bag(" + s + ")", x.bag(s), due.bag(s));
        } else if (turn < 60) {
            change(2);
        } else if (turn < 90) {
            change(1);
        } else {
            change(3);
        }
    }

    private void change(int which) {
        int s = aStratum();
        int b = aBag();
        int k = kind();
        long g = grams();
        switch (which) {
            case 0 -> build(random.nextInt(45));
            case 1 -> same("weight(" + b + ", " + k + ", " + g + ")", x.weight(b, k, g), due.weight(b, k, g));
            case 2 -> {
                int y = part();
                same("year(" + b + ", " + y + ")", x.year(b, y), due.year(b, y));
            }
            case 3 -> {
                long cents = longUpTo(random.nextInt(2) == 0 ? 5 : 100000);
                same("cost(" + s + ", " + cents + ")", x.cost(s, cents), due.cost(s, cents));
            }
            case 4 -> {
                int n = upTo(random.nextInt(2) == 0 ? 10 : 100);
                same("draw(" + s + ", " + n + ")", x.draw(s, n), due.draw(s, n));
            }
            // Often enough that most runs come to the fortieth.
            case 5, 8, 9 -> same("repeat(" + b + ", " + k + ", " + g + ")", x.repeat(b, k, g), due.repeat(b, k, g));
            case 6 -> {
                if (readiness == 2 || random.nextInt(12) == 0) {
                    same("missing(" + b + ")", x.missing(b), due.missing(b));
                }
            }
            default -> {
                if (readiness == 1 && rarely() || random.nextInt(60) == 0) {
                    int other = aStratum();
                    same("joined(" + s + ", " + other + ")", x.joined(s, other), due.joined(s, other));
                }
            }
        }
    }

    private void ask(int which) {
        int s = aStratum();
        int k = kind();
        int p = part();
        String asked = "(" + k + ", " + p + ")";
        switch (which) {
            case 0 -> same("counting()", x.counting(), due.counting());
            case 1 -> same("mean" + asked, x.mean(k, p), due.mean(k, p));
            case 2 -> same("spread" + asked, x.spread(k, p), due.spread(k, p));
            case 3 -> same("compared" + asked, x.compared(k, p), due.compared(k, p));
            case 4 -> same("error" + asked, x.error(k, p), due.error(k, p));
            case 5 -> {
                int at = upTo(99);
                same("drawn(" + s + ", " + at + ")", x.drawn(s, at), due.drawn(s, at));
            }
            case 6 -> askPlan(k);
            default -> same("planned(" + s + ")", x.planned(s), due.planned(s));
        }
    }

    private void askPlan(int k) {
        if (random.nextInt(3) > 0) {
            return;
        }
        long below = rarely() ? longUpTo(1000) : 1 + random.nextInt(1000);
        long above = longUpTo(1000000000);
        long spread = due.spread(k, 0);
        if (spread >= 0 && random.nextInt(4) > 0) {
            // Near the spread that there is: some plans are near enough, others are not.
            long whole = spread / due.spread(k, 1);
            above = Math.min(1000000000, (whole + 1) * below / (1 + random.nextInt(3)) + random.nextInt(3));
        }
        same("plan(" + k + ", " + above + ", " + below + ")", x.plan(k, above, below), due.plan(k, above, below));
    }
}
