import java.math.BigInteger;
import java.util.ArrayList;
import java.util.List;

/**
 * The document once more, as plainly as can be and with fractions of any size, to hold the class against.
 * It shares no code with the class and takes no care of time or room.
 */
final class Model {
    private static final int NONE = -1;

    private static final class Stratum {
        int size;
        long cost = 1;
        boolean gone;
        List<Integer> drawn = List.of();
    }

    private static final class Bag {
        Stratum stratum;
        int year;
        boolean missing;
        final long[] grams = new long[3];
    }

    private record Repeat(Bag bag, int kind, long grams) { }

    /** Not reduced until it is told. */
    private record Fraction(BigInteger above, BigInteger below) {
        static final Fraction ZERO = of(0, 1);

        static Fraction of(long above, long below) {
            return new Fraction(BigInteger.valueOf(above), BigInteger.valueOf(below));
        }

        Fraction plus(Fraction o) {
            return new Fraction(above.multiply(o.below).add(o.above.multiply(below)), below.multiply(o.below));
        }

        Fraction minus(Fraction o) {
            return plus(new Fraction(o.above.negate(), o.below));
        }

        Fraction times(Fraction o) {
            return new Fraction(above.multiply(o.above), below.multiply(o.below));
        }

        Fraction over(long n) {
            return new Fraction(above, below.multiply(BigInteger.valueOf(n)));
        }

        Fraction size() {
            return new Fraction(above.abs(), below);
        }

        boolean atMost(Fraction o) {
            return above.multiply(o.below).compareTo(o.above.multiply(below)) <= 0;
        }

        long part(int part) {
            BigInteger shared = above.gcd(below);
            return (part == 0 ? above : below).divide(shared).longValueExact();
        }
    }

    private final List<Stratum> strata = new ArrayList<>();
    private final List<Bag> bags = new ArrayList<>();
    private final List<Repeat> repeats = new ArrayList<>();
    private long seed;
    private List<Integer> held;

    Model(long seed) {
        this.seed = seed;
    }

    private static boolean within(long number, long least, long most) {
        return least <= number && number <= most;
    }

    private Stratum standing(int stratum) {
        boolean there = within(stratum, 0, strata.size() - 1) && !strata.get(stratum).gone;
        return there ? strata.get(stratum) : null;
    }

    private Bag bagAt(int bag) {
        return within(bag, 0, bags.size() - 1) ? bags.get(bag) : null;
    }

    private List<Bag> sorted(Stratum stratum) {
        List<Bag> found = new ArrayList<>();
        for (Bag b : bags) {
            if (b.stratum == stratum && !b.missing) {
                found.add(b);
            }
        }
        return found;
    }

    private boolean counts(Stratum stratum) {
        return !stratum.gone && !sorted(stratum).isEmpty();
    }

    private Fraction weightOf(Stratum stratum) {
        long all = 0;
        for (Stratum s : strata) {
            all += counts(s) ? s.size : 0;
        }
        return Fraction.of(stratum.size, all);
    }

    private static Fraction meanOf(List<Bag> some, int kind) {
        long sum = 0;
        for (Bag b : some) {
            sum += b.grams[kind];
        }
        return Fraction.of(sum, some.size());
    }

    private Fraction spreadOf(Stratum stratum, int kind) {
        List<Bag> some = sorted(stratum);
        Fraction mean = meanOf(some, kind);
        Fraction sum = Fraction.ZERO;
        for (Bag b : some) {
            Fraction far = Fraction.of(b.grams[kind], 1).minus(mean);
            sum = sum.plus(far.times(far));
        }
        return sum.over(some.size() - 1);
    }

    private boolean hasSpread(int kind) {
        boolean any = false;
        for (Stratum s : strata) {
            if (counts(s)) {
                any = true;
                if (sorted(s).size() < 2) {
                    return false;
                }
            }
        }
        return any && within(kind, 0, 2);
    }

    int stratum(int size) {
        if (strata.size() == 4 || !within(size, 1, 100)) {
            return NONE;
        }
        Stratum s = new Stratum();
        s.size = size;
        strata.add(s);
        return strata.size() - 1;
    }

    boolean cost(int stratum, long cents) {
        Stratum s = standing(stratum);
        if (s == null || !within(cents, 1, 100000)) {
            return false;
        }
        s.cost = cents;
        return true;
    }

    int bag(int stratum) {
        Stratum s = standing(stratum);
        if (s == null || bags.size() == 12) {
            return NONE;
        }
        Bag b = new Bag();
        b.stratum = s;
        bags.add(b);
        return bags.size() - 1;
    }

    boolean weight(int bag, int kind, long grams) {
        Bag b = bagAt(bag);
        if (b == null || !within(kind, 0, 2) || !within(grams, 0, 10000)) {
            return false;
        }
        b.grams[kind] = grams;
        return true;
    }

    boolean year(int bag, int y) {
        Bag b = bagAt(bag);
        if (b == null || !within(y, 0, 1)) {
            return false;
        }
        b.year = y;
        return true;
    }

    boolean missing(int bag) {
        Bag b = bagAt(bag);
        if (b == null || b.missing) {
            return false;
        }
        b.missing = true;
        return true;
    }

    int draw(int stratum, int n) {
        Stratum s = standing(stratum);
        if (s == null || !within(n, 0, s.size)) {
            return NONE;
        }
        List<Integer> list = new ArrayList<>();
        for (int i = 0; i < s.size; i++) {
            list.add(i);
        }
        for (int i = 0; i < n; i++) {
            seed = seed * 6364136223846793005L + 1442695040888963407L;
            int other = i + (int) ((seed >>> 33) % (s.size - i));
            int kept = list.get(i);
            list.set(i, list.get(other));
            list.set(other, kept);
        }
        s.drawn = list.subList(0, n);
        return n;
    }

    int drawn(int stratum, int k) {
        if (!within(stratum, 0, strata.size() - 1)) {
            return NONE;
        }
        List<Integer> list = strata.get(stratum).drawn;
        return within(k, 0, list.size() - 1) ? list.get(k) : NONE;
    }

    long mean(int kind, int part) {
        if (!within(kind, 0, 2) || !within(part, 0, 1) || counting() == 0) {
            return NONE;
        }
        Fraction mean = Fraction.ZERO;
        for (Stratum s : strata) {
            if (counts(s)) {
                mean = mean.plus(weightOf(s).times(meanOf(sorted(s), kind)));
            }
        }
        return mean.part(part);
    }

    long spread(int kind, int part) {
        if (!within(part, 0, 1) || !hasSpread(kind)) {
            return NONE;
        }
        Fraction spread = Fraction.ZERO;
        for (Stratum s : strata) {
            if (counts(s)) {
                spread = spread.plus(weighed(s, kind).over(sorted(s).size()));
            }
        }
        return spread.part(part);
    }

    private Fraction weighed(Stratum s, int kind) {
        return weightOf(s).times(weightOf(s)).times(spreadOf(s, kind));
    }

    long plan(int kind, long above, long below) {
        if (!within(above, 0, 1000000000) || !within(below, 1, 1000) || !hasSpread(kind)) {
            return NONE;
        }
        List<Fraction> spreads = new ArrayList<>();
        for (Stratum s : strata) {
            spreads.add(counts(s) ? weighed(s, kind) : null);
        }
        held = null;
        tryPlans(new ArrayList<>(), spreads, Fraction.ZERO, Fraction.of(above, below));
        return held == null ? NONE : costOf(held);
    }

    private void tryPlans(List<Integer> begun, List<Fraction> spreads, Fraction spread, Fraction most) {
        int s = begun.size();
        if (s == spreads.size()) {
            if (spread.atMost(most) && (held == null || isBetter(begun, held))) {
                held = new ArrayList<>(begun);
            }
            return;
        }
        if (spreads.get(s) == null) {
            begun.add(0);
            tryPlans(begun, spreads, spread, most);
            begun.remove(s);
            return;
        }
        // The dearest first: the order of the trials must not be what decides.
        for (int n = 6; n >= 1; n--) {
            begun.add(n);
            tryPlans(begun, spreads, spread.plus(spreads.get(s).over(n)), most);
            begun.remove(s);
        }
    }

    private boolean isBetter(List<Integer> one, List<Integer> other) {
        if (costOf(one) != costOf(other)) {
            return costOf(one) < costOf(other);
        }
        for (int s = 0; s < one.size(); s++) {
            if (!one.get(s).equals(other.get(s))) {
                return one.get(s) < other.get(s);
            }
        }
        return false;
    }

    private long costOf(List<Integer> plan) {
        long cost = 0;
        for (int s = 0; s < plan.size(); s++) {
            cost += plan.get(s) * strata.get(s).cost;
        }
        return cost;
    }

    int planned(int stratum) {
        if (held == null || !within(stratum, 0, strata.size() - 1)) {
            return NONE;
        }
        return stratum < held.size() ? held.get(stratum) : 0;
    }

    long compared(int kind, int part) {
        List<Bag> all = new ArrayList<>();
        List<Bag> firsts = new ArrayList<>();
        for (Bag b : bags) {
            if (!b.missing) {
                all.add(b);
                if (b.year == 0) {
                    firsts.add(b);
                }
            }
        }
        boolean both = !firsts.isEmpty() && firsts.size() < all.size();
        if (!within(kind, 0, 2) || !within(part, 0, 1) || !both || all.size() > 10) {
            return NONE;
        }
        Fraction due = part == 0 ? apart(firsts, all, kind) : Fraction.ZERO;
        return waysFrom(0, new ArrayList<>(), all, firsts.size(), kind, due);
    }

    private static long waysFrom(int at, List<Bag> chosen, List<Bag> all, int most, int kind, Fraction due) {
        if (chosen.size() == most) {
            return due.atMost(apart(chosen, all, kind)) ? 1 : 0;
        }
        if (at == all.size()) {
            return 0;
        }
        List<Bag> more = new ArrayList<>(chosen);
        more.add(all.get(at));
        return waysFrom(at + 1, more, all, most, kind, due) + waysFrom(at + 1, chosen, all, most, kind, due);
    }

    private static Fraction apart(List<Bag> firsts, List<Bag> all, int kind) {
        List<Bag> others = new ArrayList<>(all);
        others.removeAll(firsts);
        return meanOf(firsts, kind).minus(meanOf(others, kind)).size();
    }

    boolean joined(int a, int b) {
        Stratum first = standing(a);
        Stratum second = standing(b);
        if (first == null || second == null || first == second || first.size + second.size > 100) {
            return false;
        }
        first.size += second.size;
        second.gone = true;
        for (Bag bag : bags) {
            if (bag.stratum == second) {
                bag.stratum = first;
            }
        }
        return true;
    }

    int repeat(int bag, int kind, long grams) {
        Bag b = bagAt(bag);
        if (b == null || !within(kind, 0, 2) || !within(grams, 0, 10000) || repeats.size() == 40) {
            return NONE;
        }
        repeats.add(new Repeat(b, kind, grams));
        return repeats.size();
    }

    long error(int kind, int part) {
        long squares = 0;
        long often = 0;
        for (Repeat r : repeats) {
            if (r.kind == kind) {
                long far = r.grams - r.bag.grams[kind];
                squares += far * far;
                often++;
            }
        }
        return often == 0 || !within(part, 0, 1) ? NONE : Fraction.of(squares, 2 * often).part(part);
    }

    int counting() {
        int number = 0;
        for (Stratum s : strata) {
            number += counts(s) ? 1 : 0;
        }
        return number;
    }
}
