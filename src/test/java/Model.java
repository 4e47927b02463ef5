import java.math.BigInteger;
import java.util.ArrayList;
import java.util.List;

/**
 * The document told a second time, slowly and by other ways than the class: integrals step by step over
 * stretches of length 1, symmetry by exact values at more points than a difference of two pieces can have zeros.
 */
final class Model {
    private static final int[] PRIMES = {2, 3, 5, 7, 11};

    private final List<Integer> cuts = new ArrayList<>();
    private final List<int[]> pieces = new ArrayList<>();
    private Ratio known = null;
    private int[] logarithms = new int[5];

    Model() {
        pieces.add(new int[8]);
    }

    int cut(int x) {
        if (x < -6 || x > 6 || cuts.contains(x)) {
            throw new IllegalArgumentException();
        }
        if (cuts.size() == 3) {
            throw new IllegalStateException();
        }
        int k = pieceAt(new Ratio(x, 1));
        cuts.add(k, x);
        pieces.add(k, pieces.get(k).clone());
        return k;
    }

    void join(int k) {
        place(k);
        cuts.remove(k);
        pieces.remove(k + 1);
    }

    boolean put(int piece, int number, int v) {
        int was = at(piece, number);
        int most = number == 7 ? 6 : 5;
        if (v < -most || v > most) {
            throw new IllegalArgumentException();
        }
        pieces.get(piece)[number] = v;
        return was != v;
    }

    int at(int piece, int number) {
        if (piece < 0 || piece >= pieces.size()) {
            throw new IndexOutOfBoundsException();
        }
        if (number < 0 || number > 7) {
            throw new IllegalArgumentException();
        }
        return pieces.get(piece)[number];
    }

    int place(int k) {
        if (k < 0 || k >= cuts.size()) {
            throw new IndexOutOfBoundsException();
        }
        return cuts.get(k);
    }

    void mirror() {
        List<Integer> oldCuts = new ArrayList<>(cuts);
        List<int[]> oldPieces = new ArrayList<>(pieces);
        cuts.clear();
        pieces.clear();
        for (int place : oldCuts) {
            cuts.add(0, -place);
        }
        for (int[] n : oldPieces) {
            pieces.add(0, new int[] {n[0], -n[1], n[2], -n[3], -n[4], n[5], -n[6], -n[7]});
        }
    }

    long value(int x, int part) {
        if (x < -6 || x > 6 || part < 0 || part > 1) {
            throw new IllegalArgumentException();
        }
        int[] n = pieces.get(pieceAt(new Ratio(x, 1)));
        if (hasPole(n) && n[7] == x) {
            throw new IllegalStateException();
        }
        return exactValue(new Ratio(x, 1)).part(part);
    }

    boolean integral(int from, int to) {
        if (!isEnd(from) || !isEnd(to)) {
            throw new IllegalArgumentException();
        }
        known = null;
        logarithms = new int[5];
        Ratio sum = new Ratio(0, 1);
        int sign = from <= to ? 1 : -1;
        int left = Math.min(from, to);
        int right = Math.max(from, to);
        for (int x = -7; x <= 6; x++) {
            // The first and the last stretch have no end; of -9 and 9 nothing is between but them.
            int start = x == -7 ? -9 : x;
            int stop = x == 6 ? 9 : x + 1;
            if (left <= start && stop <= right) {
                Ratio area = stretch(start, stop, sign);
                if (area == null) {
                    return false;
                }
                sum = sum.plus(area.times(new Ratio(sign, 1)));
            }
        }
        known = sum;
        return true;
    }

    boolean isKnown() {
        return known != null;
    }

    long fraction(int part) {
        if (known == null) {
            throw new IllegalStateException();
        }
        if (part < 0 || part > 1) {
            throw new IllegalArgumentException();
        }
        return known.part(part);
    }

    int logarithm(int prime) {
        if (known == null) {
            throw new IllegalStateException();
        }
        for (int i = 0; i < 5; i++) {
            if (PRIMES[i] == prime) {
                return logarithms[i];
            }
        }
        throw new IllegalArgumentException();
    }

    int symmetry() {
        boolean even = true;
        boolean odd = true;
        for (int k = 1; k < 7 * 13; k++) {
            if (k % 13 != 0) {
                Ratio there = exactValue(new Ratio(k, 13));
                Ratio mirrored = exactValue(new Ratio(-k, 13));
                even &= there.same(mirrored);
                odd &= there.same(mirrored.times(new Ratio(-1, 1)));
            }
        }
        return even && odd ? 2 : even ? 1 : odd ? -1 : 0;
    }

    int cuts() {
        return cuts.size();
    }

    void clear() {
        cuts.clear();
        pieces.clear();
        pieces.add(new int[8]);
        known = null;
    }

    /** Simpson's rule, for a look at the exact ways from afar: only for ends that are ends and no pole between. */
    double roughIntegral(int from, int to) {
        int left = Math.min(from, to);
        int right = Math.max(from, to);
        double sum = 0;
        for (int x = left; x < right; x++) {
            int[] n = pieces.get(pieceAt(new Ratio(x, 1)));
            int steps = 200;
            for (int i = 0; i < steps; i++) {
                double a = x + (double) i / steps;
                double b = x + (double) (i + 1) / steps;
                sum += (roughValue(n, a) + 4 * roughValue(n, (a + b) / 2) + roughValue(n, b)) / (6 * steps);
            }
        }
        return from <= to ? sum : -sum;
    }

    private static double roughValue(int[] n, double x) {
        double d = x - n[7];
        double poles = hasPole(n) ? n[4] / d + n[5] / (d * d) + n[6] / (d * d * d) : 0;
        return n[0] + n[1] * x + n[2] * x * x + n[3] * x * x * x + poles;
    }

    private static boolean isEnd(int x) {
        return x == -9 || x == 9 || x >= -6 && x <= 6;
    }

    private static boolean hasPole(int[] n) {
        return n[4] != 0 || n[5] != 0 || n[6] != 0;
    }

    private int pieceAt(Ratio x) {
        int piece = 0;
        while (piece < cuts.size() && new Ratio(cuts.get(piece), 1).compare(x) <= 0) {
            piece++;
        }
        return piece;
    }

    private Ratio exactValue(Ratio x) {
        int[] n = pieces.get(pieceAt(x));
        Ratio sum = new Ratio(0, 1);
        Ratio power = new Ratio(1, 1);
        for (int i = 0; i <= 3; i++) {
            sum = sum.plus(power.times(new Ratio(n[i], 1)));
            power = power.times(x);
        }
        if (hasPole(n)) {
            Ratio oneOver = x.plus(new Ratio(-n[7], 1)).upsideDown();
            power = oneOver;
            for (int i = 4; i <= 6; i++) {
                sum = sum.plus(power.times(new Ratio(n[i], 1)));
                power = power.times(oneOver);
            }
        }
        return sum;
    }

    /** Null if it diverges. */
    private Ratio stretch(int start, int stop, int sign) {
        int[] n = pieces.get(pieceAt(new Ratio(start == -9 ? -7 : start, 1)));
        boolean endless = start == -9 || stop == 9;
        if (hasPole(n) && (n[7] == start || n[7] == stop)) {
            return null;
        }
        if (endless && (n[0] != 0 || n[1] != 0 || n[2] != 0 || n[3] != 0 || n[4] != 0)) {
            return null;
        }
        Ratio sum = new Ratio(0, 1);
        for (int i = 0; i <= 3; i++) {
            if (n[i] != 0) {
                long risen = (long) Math.pow(stop, i + 1) - (long) Math.pow(start, i + 1);
                sum = sum.plus(new Ratio(n[i] * risen, i + 1));
            }
        }
        for (int i = 1; i <= 2; i++) {
            if (n[4 + i] != 0) {
                Ratio fallen = powerOverTo(start, n[7], i).plus(powerOverTo(stop, n[7], i).times(new Ratio(-1, 1)));
                sum = sum.plus(fallen.times(new Ratio(n[4 + i], i)));
            }
        }
        if (n[4] != 0) {
            countPrimes(Math.abs(stop - n[7]), sign * n[4]);
            countPrimes(Math.abs(start - n[7]), -sign * n[4]);
        }
        return sum;
    }

    private static Ratio powerOverTo(int x, int p, int power) {
        return x == -9 || x == 9 ? new Ratio(0, 1) : new Ratio(1, (long) Math.pow(x - p, power));
    }

    private void countPrimes(int n, int often) {
        int rest = n;
        for (int i = 0; i < 5; i++) {
            for (; rest % PRIMES[i] == 0; rest /= PRIMES[i]) {
                logarithms[i] += often;
            }
        }
    }

    /** A fraction in lowest terms. */
    private static final class Ratio {
        private final BigInteger above;
        private final BigInteger below;

        Ratio(long above, long below) {
            this(BigInteger.valueOf(above), BigInteger.valueOf(below));
        }

        Ratio(BigInteger above, BigInteger below) {
            BigInteger shared = above.gcd(below).multiply(BigInteger.valueOf(below.signum()));
            this.above = above.divide(shared);
            this.below = below.divide(shared);
        }

        Ratio plus(Ratio o) {
            return new Ratio(above.multiply(o.below).add(o.above.multiply(below)), below.multiply(o.below));
        }

        Ratio times(Ratio o) {
            return new Ratio(above.multiply(o.above), below.multiply(o.below));
        }

        Ratio upsideDown() {
            return new Ratio(below, above);
        }

        int compare(Ratio o) {
            return above.multiply(o.below).compareTo(o.above.multiply(below));
        }

        boolean same(Ratio o) {
            return compare(o) == 0;
        }

        long part(int part) {
            return (part == 0 ? above : below).longValueExact();
        }
    }
}
