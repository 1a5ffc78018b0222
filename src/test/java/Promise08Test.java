import java.util.ArrayList;
import java.util.Collections;
import java.util.List;

/** Promise 8 (draw): how many can be drawn, of which strata, and the seed's wrap-around. */
public final class Promise08Test {
    private static final Bounds T = new Bounds("Promise 8");

    public static void main(String[] args) {
        everySize();
        oneSeedForAllStrata();
        listBeginsAnew();
        noneDrawn();
        fewerThanNone();
        allDrawn();
        moreThanAll();
        leastSize();
        greatestSize();
        sizeOfJoinedStrata();
        wrapping();
        noSuchStratum();
        goneStratum();
        T.end();
    }

    /** The document's words once more, with a list and the seed kept outside. */
    private static final class Due {
        private long seed;

        Due(long seed) {
            this.seed = seed;
        }

        long[] draw(int size, int n) {
            List<Long> list = new ArrayList<>();
            for (long number = 0; number < size; number++) {
                list.add(number);
            }
            for (int i = 0; i < n; i++) {
                seed = seed * 6364136223846793005L + 1442695040888963407L;
                Collections.swap(list, i, i + (int) Long.remainderUnsigned(seed >>> 33, size - i));
            }
            return list.subList(0, n).stream().mapToLong(Long::longValue).toArray();
        }
    }

    private static void everySize() {
        T.test("Draws n different numbers of a stratum");
        for (int size = 1; size <= 100; size++) {
            for (int n : new int[] {0, 1, size / 2, size - 1, size}) {
                long seed = (size - 50) * 0x123456789ABCDEFL + n;
                T.anew(seed);
                T.given("stratum(" + size + ")");
                T.is("draw(0, " + n + ")", n);
                T.drawn(0, new Due(seed).draw(size, n));
            }
        }
    }

    private static void oneSeedForAllStrata() {
        T.test("the seed becomes", 99);
        int[] sizes = {5, 100, 1, 37};
        Due due = new Due(99);
        long[][] latest = new long[4][];
        for (int s = 0; s < 4; s++) {
            T.is("stratum(" + sizes[s] + ")", s);
            T.is("draw(" + s + ", " + sizes[s] + ")", sizes[s]);
            latest[s] = due.draw(sizes[s], sizes[s]);
        }
        for (int s = 0; s < 4; s++) {
            T.drawn(s, latest[s]);
        }
    }

    private static void listBeginsAnew() {
        T.test("the numbers 0, 1, .. up to its size less one stand in a list");
        T.given("stratum(12)");
        Due due = new Due(0);
        for (int time = 0; time < 20; time++) {
            T.is("draw(0, 12)", 12);
            T.drawn(0, due.draw(12, 12));
        }
    }

    private static void noneDrawn() {
        T.test("n different numbers (0 .. its size): 0");
        T.given("stratum(100)");
        T.is("draw(0, 0)", 0);
        T.drawn(0);
        // For no i has the seed become another: from seed 0 these are the first four.
        T.is("draw(0, 4)", 4);
        T.drawn(0, 7, 49, 57, 23);
        T.is("draw(0, 0)", 0);
        T.drawn(0);
    }

    private static void fewerThanNone() {
        T.test("NONE when n is not such: below 0");
        T.given(States.ORDINARY);
        T.refuses("draw(0, -1)", "draw(0, min)", "draw(2, -1)");
        T.is("draw(0, 0)", 0);
        T.refuses("draw(0, -1)");
    }

    private static void allDrawn() {
        T.test("n different numbers (0 .. its size): its size", -7);
        T.given("stratum(3)");
        T.is("draw(0, 3)", 3);
        T.drawn(0, 1, 2, 0);
        T.is("draw(0, 2)", 2);
        T.drawn(0, 1, 2);
    }

    private static void moreThanAll() {
        T.test("NONE when n is not such: above its size");
        T.given(States.ORDINARY);
        T.refuses("draw(0, 31)", "draw(1, 51)", "draw(2, 21)", "draw(0, 50)", "draw(0, 100)", "draw(0, 101)",
            "draw(0, max)");
        T.is("draw(0, 30)", 30);
        T.is("draw(1, 50)", 50);
        T.is("draw(2, 20)", 20);
        T.refuses("draw(0, 31)", "draw(1, 51)", "draw(2, 21)");
    }

    private static void leastSize() {
        T.test("n different numbers (0 .. its size): of a size of 1");
        T.given("stratum(1)", "stratum(100)");
        T.is("draw(0, 1)", 1);
        T.drawn(0, 0);
        T.refuses("draw(0, 2)");
        // The one draw has used the seed, though it had no choice: the first number of seed 0 is 7.
        T.is("draw(1, 1)", 1);
        T.drawn(1, 24);
    }

    private static void greatestSize() {
        T.test("n different numbers (0 .. its size): of a size of 100");
        T.given("stratum(100)");
        T.is("draw(0, 100)", 100);
        T.refuses("draw(0, 101)");
        eachOnce(100);
        T.is("draw(0, 99)", 99);
        T.is("drawn(0, 99)", -1);
    }

    private static void eachOnce(int size) {
        Run run = new Run(0);
        run.answer("stratum(" + size + ")");
        run.answer("draw(0, " + size + ")");
        boolean[] seen = new boolean[size];
        for (int k = 0; k < size; k++) {
            int number = (int) run.answer("drawn(0, " + k + ")");
            T.holds("different, and below the size: " + number, number >= 0 && number < size && !seen[number]);
            seen[number] = true;
        }
    }

    private static void sizeOfJoinedStrata() {
        T.test("NONE when n is not such: above the size of strata that were joined");
        T.given("stratum(40)", "stratum(60)");
        T.refuses("draw(0, 41)");
        T.yes("joined(0, 1)");
        T.is("draw(0, 41)", 41);
        T.is("draw(0, 100)", 100);
        T.refuses("draw(0, 101)");
    }

    /** Each seed stands just before one at an end; what is due was worked out with whole numbers of any size. */
    private static void wrapping() {
        T.test("the seed becomes seed * 6364136223846793005 + 1442695040888963407 (wrapping)");
        drawsTwo(-2810872687533676688L, 47, 59);
        drawsTwo(-7379792620528906219L, 0, 90);
        drawsTwo(1843579416325869589L, 24, 91);
        drawsTwo(6412499349321099120L, 23, 58);
        // Of a seed of 33 bits nothing is left, of the next one there is.
        drawsTwo(4483922187169113968L, 0, 37);
        drawsTwo(-84997745826115563L, 1, 70);
    }

    private static void drawsTwo(long seed, long first, long second) {
        T.anew(seed);
        T.given("stratum(100)");
        T.is("draw(0, 2)", 2);
        T.drawn(0, first, second);
    }

    private static void noSuchStratum() {
        T.test("NONE when there is no such stratum");
        T.refuses("draw(0, 0)", "draw(-1, 0)");
        T.given(States.ORDINARY);
        T.refuses("draw(-1, 1)", "draw(3, 0)", "draw(3, 1)", "draw(4, 1)", "draw(min, 1)", "draw(max, 1)");
        T.given("stratum(100)");
        T.is("draw(3, 1)", 1);
        T.refuses("draw(4, 0)");
    }

    private static void goneStratum() {
        T.test("NONE when it is gone");
        T.given(States.ORDINARY);
        T.yes("joined(0, 1)");
        T.refuses("draw(1, 0)", "draw(1, 1)", "draw(1, 50)");
        T.is("draw(0, 80)", 80);
        T.anew(0);
        T.given(States.FULL);
        T.refuses("draw(3, 0)", "draw(3, 30)");
    }
}
