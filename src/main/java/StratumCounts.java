import java.util.Arrays;

/**
 * What waste is made of, by strata. The project's document promises what each call answers;
 * the comments here say only why things are done as they are.
 */
public final class StratumCounts {
    public static final int NONE = -1;

    private static final int MOST_STRATA = 4;
    private static final int MOST_SIZE = 100;
    private static final long FIRST_COST = 1L;
    private static final long MOST_COST = 100000L;
    private static final int MOST_BAGS = 12;
    private static final int KINDS = 3;
    private static final int YEARS = 2;
    private static final int PARTS = 2;
    private static final long MOST_GRAMS = 10000L;
    private static final int MOST_REPEATS = 40;
    private static final int MOST_COMPARED = 10;
    private static final long SEED_FACTOR = 6364136223846793005L;
    private static final long SEED_ADDEND = 1442695040888963407L;
    private static final int SEED_SHIFT = 33;
    private static final int MOST_PLANNED = 6;
    private static final int MOST_PLANS = 1296;
    private static final long MOST_ABOVE = 1000000000L;
    private static final long MOST_BELOW = 1000L;
    /** The least number that each of 1 .. MOST_PLANNED divides: shares of it stay whole. */
    private static final long PLAN_UNIT = 60L;
    /** Euclid's way needs at most 92 steps for two longs. */
    private static final int MOST_STEPS = 100;

    private final Strata strata;
    private final Bags bags;
    private final Draws draws;
    private final Repeats repeats;
    private final Figures figures;
    private final Planner planner;
    private final Comparison comparison;

    public StratumCounts(long seed) {
        strata = new Strata();
        bags = new Bags();
        draws = new Draws(seed);
        repeats = new Repeats();
        figures = new Figures();
        planner = new Planner();
        comparison = new Comparison();
    }

    public int stratum(int size) {
        return strata.add(size);
    }

    public boolean cost(int stratum, long cents) {
        return strata.setCost(stratum, cents);
    }

    public int bag(int stratum) {
        return strata.stands(stratum) ? bags.add(stratum) : NONE;
    }

    public boolean weight(int bag, int kind, long grams) {
        return bags.setGrams(bag, kind, grams);
    }

    public boolean year(int bag, int y) {
        return bags.setYear(bag, y);
    }

    public boolean missing(int bag) {
        return bags.lose(bag);
    }

    public int draw(int stratum, int n) {
        if (!strata.stands(stratum)) {
            return NONE;
        }
        return draws.take(stratum, strata.sizes[stratum], n);
    }

    public int drawn(int stratum, int k) {
        return strata.has(stratum) ? draws.taken(stratum, k) : NONE;
    }

    public long mean(int kind, int part) {
        if (!isKind(kind) || !isPart(part)) {
            return NONE;
        }
        figures.gather(strata, bags, kind);
        return figures.counted > 0 ? figures.tellMean(part) : NONE;
    }

    public long spread(int kind, int part) {
        if (!isKind(kind) || !isPart(part)) {
            return NONE;
        }
        figures.gather(strata, bags, kind);
        return figures.haveSpread() ? figures.tellSpread(part) : NONE;
    }

    public long plan(int kind, long above, long below) {
        if (!isKind(kind) || above < 0 || above > MOST_ABOVE || below < 1 || below > MOST_BELOW) {
            return NONE;
        }
        figures.gather(strata, bags, kind);
        if (!figures.haveSpread()) {
            return NONE;
        }
        planner.prepare(figures, strata, above, below);
        return planner.findCheapest();
    }

    public int planned(int stratum) {
        return strata.has(stratum) ? planner.heldBags(stratum) : NONE;
    }

    public long compared(int kind, int part) {
        if (!isKind(kind) || !isPart(part) || !comparison.gather(bags, kind)) {
            return NONE;
        }
        return part == 0 ? comparison.countFarWays() : comparison.countWays();
    }

    public boolean joined(int a, int b) {
        if (!strata.merge(a, b)) {
            return false;
        }
        bags.move(b, a);
        return true;
    }

    public int repeat(int bag, int kind, long grams) {
        if (!bags.has(bag) || !isKind(kind) || !isGrams(grams)) {
            return NONE;
        }
        return repeats.add(bag, kind, grams);
    }

    public long error(int kind, int part) {
        if (!isKind(kind) || !isPart(part)) {
            return NONE;
        }
        return repeats.tellError(bags, kind, part);
    }

    public int counting() {
        // Whether a stratum counts is the same for every kind.
        figures.gather(strata, bags, 0);
        return figures.counted;
    }

    private static boolean isKind(int kind) {
        return kind >= 0 && kind < KINDS;
    }

    private static boolean isPart(int part) {
        return part >= 0 && part < PARTS;
    }

    private static boolean isGrams(long grams) {
        return grams >= 0 && grams <= MOST_GRAMS;
    }

    /** For a and b not below 0; 0 only when both are 0. */
    private static long greatestShared(long a, long b) {
        long greater = a;
        long smaller = b;
        for (int step = 0; step < MOST_STEPS && smaller != 0; step++) {
            long rest = greater % smaller;
            greater = smaller;
            smaller = rest;
        }
        return greater;
    }

    private static long leastCommon(long a, long b) {
        long shared = greatestShared(a, b);
        return shared < 1 ? 0 : a / shared * b;
    }

    private static long tell(long above, long below, int part) {
        long shared = greatestShared(above, below);
        if (shared < 1) {
            return NONE;
        }
        return (part == 0 ? above : below) / shared;
    }

    /** The strata; one that is gone keeps its number, so that it is refused and not taken for another. */
    private static final class Strata {
        private final int[] sizes = new int[MOST_STRATA];
        private final long[] costs = new long[MOST_STRATA];
        private final boolean[] gone = new boolean[MOST_STRATA];
        private int made;

        private boolean has(int stratum) {
            return stratum >= 0 && stratum < made;
        }

        private boolean stands(int stratum) {
            return has(stratum) && !gone[stratum];
        }

        private int add(int size) {
            if (made >= MOST_STRATA || size < 1 || size > MOST_SIZE) {
                return NONE;
            }
            int stratum = made;
            sizes[stratum] = size;
            costs[stratum] = FIRST_COST;
            made++;
            return stratum;
        }

        private boolean setCost(int stratum, long cents) {
            if (!stands(stratum) || cents < 1 || cents > MOST_COST) {
                return false;
            }
            costs[stratum] = cents;
            return true;
        }

        private boolean merge(int into, int from) {
            if (!stands(into) || !stands(from) || into == from) {
                return false;
            }
            int together = sizes[into] + sizes[from];
            if (together > MOST_SIZE) {
                return false;
            }
            sizes[into] = together;
            gone[from] = true;
            return true;
        }
    }

    /** The bags, those that are missing too: they can still be weighed, dated and sorted again. */
    private static final class Bags {
        private final int[] homes = new int[MOST_BAGS];
        private final int[] dates = new int[MOST_BAGS];
        private final boolean[] lost = new boolean[MOST_BAGS];
        private final long[] grams = new long[MOST_BAGS * KINDS];
        private int made;

        private boolean has(int bag) {
            return bag >= 0 && bag < made;
        }

        private int add(int stratum) {
            if (made >= MOST_BAGS) {
                return NONE;
            }
            int bag = made;
            homes[bag] = stratum;
            made++;
            return bag;
        }

        private boolean setGrams(int bag, int kind, long amount) {
            if (!has(bag) || !isKind(kind) || !isGrams(amount)) {
                return false;
            }
            grams[bag * KINDS + kind] = amount;
            return true;
        }

        private boolean setYear(int bag, int y) {
            if (!has(bag) || y < 0 || y >= YEARS) {
                return false;
            }
            dates[bag] = y;
            return true;
        }

        private boolean lose(int bag) {
            if (!has(bag) || lost[bag]) {
                return false;
            }
            lost[bag] = true;
            return true;
        }

        private void move(int from, int into) {
            for (int bag = 0; bag < made; bag++) {
                if (homes[bag] == from) {
                    homes[bag] = into;
                }
            }
        }

        private long gramsOf(int bag, int kind) {
            return has(bag) && isKind(kind) ? grams[bag * KINDS + kind] : 0;
        }
    }

    /** The latest draw of each stratum, and the one seed that all draws use up in turn. */
    private static final class Draws {
        private final int[] lists = new int[MOST_STRATA * MOST_SIZE];
        private final int[] lengths = new int[MOST_STRATA];
        private long seed;

        private Draws(long seed) {
            this.seed = seed;
        }

        private int take(int stratum, int size, int n) {
            if (n < 0 || n > size) {
                return NONE;
            }
            int start = stratum * MOST_SIZE;
            for (int i = 0; i < size; i++) {
                lists[start + i] = i;
            }
            for (int i = 0; i < n && i < size; i++) {
                swap(start + i, start + i + nextBelow(size - i));
            }
            lengths[stratum] = n;
            return n;
        }

        private int nextBelow(int bound) {
            seed = seed * SEED_FACTOR + SEED_ADDEND;
            return bound < 1 ? 0 : (int) ((seed >>> SEED_SHIFT) % bound);
        }

        private void swap(int one, int other) {
            int kept = lists[one];
            lists[one] = lists[other];
            lists[other] = kept;
        }

        private int taken(int stratum, int k) {
            return k >= 0 && k < lengths[stratum] ? lists[stratum * MOST_SIZE + k] : NONE;
        }
    }

    /** All that was sorted again; kept one by one, for the bag's own grams may still change. */
    private static final class Repeats {
        private final int[] sorted = new int[MOST_REPEATS];
        private final int[] kinds = new int[MOST_REPEATS];
        private final long[] found = new long[MOST_REPEATS];
        private int made;

        private int add(int bag, int kind, long grams) {
            if (made >= MOST_REPEATS) {
                return NONE;
            }
            sorted[made] = bag;
            kinds[made] = kind;
            found[made] = grams;
            made++;
            return made;
        }

        private long tellError(Bags bags, int kind, int part) {
            long squares = 0;
            long times = 0;
            for (int i = 0; i < made; i++) {
                if (kinds[i] == kind) {
                    long off = found[i] - bags.gramsOf(sorted[i], kind);
                    squares += off * off;
                    times++;
                }
            }
            return times > 0 ? tell(squares, 2 * times, part) : NONE;
        }
    }

    /** One kind's figures of every stratum, gathered anew for each call that asks. */
    private static final class Figures {
        private final long[] sizes = new long[MOST_STRATA];
        private final long[] numbers = new long[MOST_STRATA];
        private final long[] sums = new long[MOST_STRATA];
        /** The squares of how far bags are from their mean, together, times their number: always whole. */
        private final long[] scatters = new long[MOST_STRATA];
        private final Terms terms = new Terms();
        private int counted;
        private long total;

        private void gather(Strata strata, Bags bags, int kind) {
            counted = 0;
            total = 0;
            for (int s = 0; s < MOST_STRATA; s++) {
                gatherOne(s, bags, kind);
                sizes[s] = strata.sizes[s];
                // One that is gone has no bags: they went to the stratum that it was joined to.
                if (numbers[s] > 0) {
                    counted++;
                    total += sizes[s];
                }
            }
        }

        private void gatherOne(int stratum, Bags bags, int kind) {
            long number = 0;
            long sum = 0;
            long squares = 0;
            for (int bag = 0; bag < bags.made; bag++) {
                if (bags.homes[bag] == stratum && !bags.lost[bag]) {
                    long grams = bags.gramsOf(bag, kind);
                    number++;
                    sum += grams;
                    squares += grams * grams;
                }
            }
            numbers[stratum] = number;
            sums[stratum] = sum;
            scatters[stratum] = number * squares - sum * sum;
        }

        private boolean haveSpread() {
            for (int s = 0; s < MOST_STRATA; s++) {
                if (numbers[s] == 1) {
                    return false;
                }
            }
            return counted > 0;
        }

        private long tellMean(int part) {
            terms.clear();
            for (int s = 0; s < MOST_STRATA; s++) {
                if (numbers[s] > 0) {
                    terms.set(s, sizes[s] * sums[s], numbers[s]);
                }
            }
            long common = terms.common();
            return tell(terms.sum(common), common * total, part);
        }

        private long tellSpread(int part) {
            terms.clear();
            for (int s = 0; s < MOST_STRATA; s++) {
                if (numbers[s] > 1) {
                    terms.set(s, weighedScatter(s), numbers[s] * pairs(s));
                }
            }
            long common = terms.common();
            return tell(terms.sum(common), common * total * total, part);
        }

        private long weighedScatter(int stratum) {
            return sizes[stratum] * sizes[stratum] * scatters[stratum];
        }

        /** What a scatter must be divided by to be the stratum's spread. */
        private long pairs(int stratum) {
            return numbers[stratum] * (numbers[stratum] - 1);
        }
    }

    /**
     * A fraction of each stratum, to be added up. They are brought to their least common denominator,
     * for their product would not always fit a long.
     */
    private static final class Terms {
        private final long[] aboves = new long[MOST_STRATA];
        private final long[] belows = new long[MOST_STRATA];

        private void clear() {
            Arrays.fill(aboves, 0L);
            Arrays.fill(belows, 1L);
        }

        private void set(int stratum, long above, long below) {
            aboves[stratum] = above;
            belows[stratum] = below;
        }

        private long common() {
            long common = 1;
            for (int s = 0; s < MOST_STRATA; s++) {
                common = leastCommon(common, belows[s]);
            }
            return common;
        }

        private long scaled(int stratum, long common) {
            return belows[stratum] < 1 ? 0 : aboves[stratum] * (common / belows[stratum]);
        }

        private long sum(long common) {
            long sum = 0;
            for (int s = 0; s < MOST_STRATA; s++) {
                sum += scaled(s, common);
            }
            return sum;
        }
    }

    /** The plan that is held, and the search for the next one. */
    private static final class Planner {
        private final int[] held = new int[MOST_STRATA];
        private final int[] trial = new int[MOST_STRATA];
        private final int[] fewest = new int[MOST_STRATA];
        private final int[] most = new int[MOST_STRATA];
        private final long[] costs = new long[MOST_STRATA];
        private final long[] burdens = new long[MOST_STRATA];
        private final Terms terms = new Terms();
        private boolean holds;
        private long limit;
        private long cheapest;

        private int heldBags(int stratum) {
            return holds ? held[stratum] : NONE;
        }

        private void prepare(Figures figures, Strata strata, long above, long below) {
            terms.clear();
            for (int s = 0; s < MOST_STRATA; s++) {
                boolean counts = figures.numbers[s] > 1;
                fewest[s] = counts ? 1 : 0;
                most[s] = counts ? MOST_PLANNED : 0;
                costs[s] = strata.costs[s];
                if (counts) {
                    terms.set(s, figures.weighedScatter(s), figures.pairs(s));
                }
            }
            long common = terms.common();
            for (int s = 0; s < MOST_STRATA; s++) {
                burdens[s] = PLAN_UNIT * terms.scaled(s, common);
            }
            // A plan's side is whole, so rounding this side down changes no comparison;
            // that side times below would not always fit a long.
            long bound = above * figures.total * figures.total * common * PLAN_UNIT;
            limit = below < 1 ? 0 : bound / below;
        }

        private long findCheapest() {
            holds = false;
            cheapest = Long.MAX_VALUE;
            System.arraycopy(fewest, 0, trial, 0, MOST_STRATA);
            for (int i = 0; i < MOST_PLANS; i++) {
                considerTrial();
                if (!stepTrial()) {
                    break;
                }
            }
            return holds ? cheapest : NONE;
        }

        private void considerTrial() {
            long cost = 0;
            for (int s = 0; s < MOST_STRATA; s++) {
                cost += trial[s] * costs[s];
            }
            // Trials come in the order of their first strata, so of equal costs the first one stays.
            if (cost < cheapest && isNearEnough()) {
                holds = true;
                cheapest = cost;
                System.arraycopy(trial, 0, held, 0, MOST_STRATA);
            }
        }

        private boolean isNearEnough() {
            long spread = 0;
            for (int s = 0; s < MOST_STRATA; s++) {
                if (trial[s] > 0) {
                    spread += burdens[s] / trial[s];
                }
            }
            return spread <= limit;
        }

        /** Counts up, the last stratum fastest; false when every plan has been tried. */
        private boolean stepTrial() {
            for (int s = MOST_STRATA - 1; s >= 0; s--) {
                if (trial[s] < most[s]) {
                    trial[s]++;
                    return true;
                }
                trial[s] = fewest[s];
            }
            return false;
        }
    }

    /** The two years' bags of one kind; a way to part them is a mask of those that are called year 0. */
    private static final class Comparison {
        private final long[] grams = new long[MOST_COMPARED];
        private int number;
        private int firsts;
        private int actual;
        private long total;

        /** False when the years can't be compared. */
        private boolean gather(Bags bags, int kind) {
            number = 0;
            actual = 0;
            total = 0;
            for (int bag = 0; bag < bags.made; bag++) {
                if (!bags.lost[bag]) {
                    if (number >= MOST_COMPARED) {
                        return false;
                    }
                    take(bags.gramsOf(bag, kind), bags.dates[bag]);
                }
            }
            firsts = Integer.bitCount(actual);
            return firsts > 0 && firsts < number;
        }

        private void take(long amount, int date) {
            grams[number] = amount;
            total += amount;
            if (date == 0) {
                actual |= 1 << number;
            }
            number++;
        }

        private long countWays() {
            long ways = 0;
            for (int way = 0; way < 1 << number; way++) {
                if (Integer.bitCount(way) == firsts) {
                    ways++;
                }
            }
            return ways;
        }

        private long countFarWays() {
            long due = apart(actual);
            long ways = 0;
            for (int way = 0; way < 1 << number; way++) {
                if (Integer.bitCount(way) == firsts && apart(way) >= due) {
                    ways++;
                }
            }
            return ways;
        }

        /** How far the means are apart, times both numbers of bags: whole, and in the same order. */
        private long apart(int way) {
            long sum = 0;
            for (int i = 0; i < number; i++) {
                if ((way >> i & 1) == 1) {
                    sum += grams[i];
                }
            }
            return Math.abs(sum * (number - firsts) - (total - sum) * firsts);
        }
    }
}
