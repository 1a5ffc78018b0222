import java.util.ArrayList;
import java.util.Collections;
import java.util.List;

/** Promises 1 (the seed), 8 (draw) and 9 (drawn). */
public final class DrawTest {
    private static final Expect E = new Expect("DrawTest");

    public static void main(String[] args) {
        byHand();
        allSizesAndNumbers();
        oneSeedForAllStrata();
        refusedDrawsKeepSeedAndLatest();
        latestDrawOnly();
        drawnOfOneThatIsGone();
        drawnRefuses();
        E.end();
    }

    /** The document's words, with the seed kept outside. */
    private static final class Due {
        private long seed;

        Due(long seed) {
            this.seed = seed;
        }

        List<Integer> draw(int size, int n) {
            List<Integer> list = new ArrayList<>();
            for (int i = 0; i < size; i++) {
                list.add(i);
            }
            for (int i = 0; i < n; i++) {
                seed = seed * 6364136223846793005L + 1442695040888963407L;
                Collections.swap(list, i, i + (int) Long.remainderUnsigned(seed >>> 33, size - i));
            }
            return list.subList(0, n);
        }
    }

    private static void checkDrawn(StratumCounts x, int stratum, List<Integer> due) {
        for (int k = 0; k < due.size(); k++) {
            E.same("drawn(" + stratum + ", " + k + ")", x.drawn(stratum, k), due.get(k));
        }
        E.none("drawn past the last", x.drawn(stratum, due.size()));
        E.none("drawn before the first", x.drawn(stratum, -1));
    }

    private static void byHand() {
        // From seed 0: 1442695040888963407 >>> 33 is 167951807, and 167951807 % 10 is 7.
        StratumCounts x = new StratumCounts(0);
        x.stratum(10);
        E.same("draw(0, 1)", x.draw(0, 1), 1);
        checkDrawn(x, 0, List.of(7));
    }

    private static void allSizesAndNumbers() {
        long[] seeds = {0, 1, -1, 42, Long.MIN_VALUE, Long.MAX_VALUE, 6364136223846793005L};
        for (int size = 1; size <= 100; size++) {
            for (int n : new int[] {0, 1, size / 2, size - 1, size}) {
                long seed = seeds[(size + n) % seeds.length];
                StratumCounts x = new StratumCounts(seed);
                x.stratum(size);
                E.same("draw", x.draw(0, n), n);
                checkDrawn(x, 0, new Due(seed).draw(size, n));
            }
        }
    }

    private static void oneSeedForAllStrata() {
        StratumCounts x = new StratumCounts(99);
        Due due = new Due(99);
        int[] sizes = {5, 100, 1, 37};
        for (int size : sizes) {
            x.stratum(size);
        }
        List<List<Integer>> latest = new ArrayList<>();
        for (int s = 0; s < 4; s++) {
            E.same("draw", x.draw(s, sizes[s]), sizes[s]);
            latest.add(due.draw(sizes[s], sizes[s]));
        }
        for (int s = 0; s < 4; s++) {
            checkDrawn(x, s, latest.get(s));
        }
    }

    private static void refusedDrawsKeepSeedAndLatest() {
        StratumCounts x = new StratumCounts(5);
        Due due = new Due(5);
        x.stratum(20);
        x.stratum(30);
        E.same("draw(0, 4)", x.draw(0, 4), 4);
        List<Integer> first = due.draw(20, 4);
        for (int n : new int[] {-1, 21, 101, Integer.MIN_VALUE, Integer.MAX_VALUE}) {
            E.none("draw(0, " + n + ")", x.draw(0, n));
        }
        for (int stratum : new int[] {-1, 2, 4, Integer.MIN_VALUE, Integer.MAX_VALUE}) {
            E.none("draw(" + stratum + ", 1)", x.draw(stratum, 1));
        }
        checkDrawn(x, 0, first);
        E.same("draw(1, 3)", x.draw(1, 3), 3);
        checkDrawn(x, 1, due.draw(30, 3));
    }

    private static void latestDrawOnly() {
        StratumCounts x = new StratumCounts(8);
        Due due = new Due(8);
        x.stratum(12);
        E.same("draw(0, 12)", x.draw(0, 12), 12);
        due.draw(12, 12);
        E.same("draw(0, 3)", x.draw(0, 3), 3);
        // The list begins anew: 0, 1, .., not as the draw before left it.
        checkDrawn(x, 0, due.draw(12, 3));
        E.same("draw(0, 0)", x.draw(0, 0), 0);
        checkDrawn(x, 0, List.of());
    }

    private static void drawnOfOneThatIsGone() {
        StratumCounts x = new StratumCounts(13);
        Due due = new Due(13);
        x.stratum(6);
        x.stratum(7);
        x.draw(0, 2);
        List<Integer> first = due.draw(6, 2);
        x.draw(1, 5);
        List<Integer> second = due.draw(7, 5);
        E.yes("joined(0, 1)", x.joined(0, 1));
        checkDrawn(x, 0, first);
        checkDrawn(x, 1, second);
        E.none("draw of one that is gone", x.draw(1, 1));
        checkDrawn(x, 1, second);
        E.same("draw of both together", x.draw(0, 13), 13);
        checkDrawn(x, 0, due.draw(13, 13));
        checkDrawn(x, 1, second);
    }

    private static void drawnRefuses() {
        StratumCounts x = new StratumCounts(1);
        x.stratum(9);
        x.stratum(9);
        E.none("nothing was drawn yet", x.drawn(0, 0));
        x.draw(0, 9);
        for (int k : new int[] {-1, 9, 100, Integer.MIN_VALUE, Integer.MAX_VALUE}) {
            E.none("drawn(0, " + k + ")", x.drawn(0, k));
        }
        for (int stratum : new int[] {-1, 1, 2, 4, Integer.MIN_VALUE, Integer.MAX_VALUE}) {
            E.none("drawn(" + stratum + ", 0)", x.drawn(stratum, 0));
        }
    }
}
