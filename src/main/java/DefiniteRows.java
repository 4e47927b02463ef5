import java.util.Arrays;

/**
 * Definite integrals of functions in pieces: powers and poles, ends that may be without end; whether
 * they diverge, else what they are, as a fraction and logarithms of primes.
 */
public final class DefiniteRows {
    private static final int MOST_CUTS = 3;
    private static final int FARTHEST = 6;
    private static final int LARGEST = 5;
    /** No end to the right, and with a minus none to the left: beyond FARTHEST, so that they compare as ENDS do. */
    private static final int ENDLESS = 9;

    private static final int NUMBERS = 8;
    private static final int A1 = 4;
    private static final int A2 = 5;
    private static final int A3 = 6;
    private static final int POLE = 7;
    /** What each NUMBER is multiplied by when x becomes -x. */
    private static final int[] MIRROR_SIGNS = {1, -1, 1, -1, -1, 1, -1, -1};

    private static final int[] PRIMES = {2, 3, 5, 7, 11};
    /** No distance from a pole is over 12, and 2 is in 8 three times. */
    private static final int MOST_TIMES = 3;
    /**
     * Twice the square of 27720, the least multiple of 1 .. 12: every fraction that an area can have is a
     * whole number of such parts, so areas are added without a look at what is below, and fit a long.
     */
    private static final long COMMON_BELOW = 2L * 27720L * 27720L;
    /** The steps of Euclid's way for any two longs are fewer. */
    private static final int MOST_STEPS = 100;

    private final int[] places = new int[MOST_CUTS];
    private final Piece[] pieces = new Piece[MOST_CUTS + 1];
    private final Sum sum = new Sum();
    private int count = 0;
    private boolean known = false;

    public DefiniteRows() {
        for (int i = 0; i <= MOST_CUTS; i++) {
            pieces[i] = new Piece();
        }
    }

    public int cut(int x) throws IllegalArgumentException, IllegalStateException {
        if (!isWithin(x, FARTHEST) || isCut(x)) {
            throw new IllegalArgumentException("no place for a cut");
        }
        if (count >= MOST_CUTS) {
            throw new IllegalStateException("there are 3 cuts");
        }
        int k = pieceAt(x);
        for (int i = count; i > k; i--) {
            places[i] = places[i - 1];
        }
        for (int i = count; i >= k; i--) {
            pieces[i + 1].become(pieces[i]);
        }
        places[k] = x;
        count++;
        return k;
    }

    public void join(int k) throws IndexOutOfBoundsException {
        if (k < 0 || k >= count) {
            throw new IndexOutOfBoundsException("no such cut");
        }
        for (int i = k; i < count - 1; i++) {
            places[i] = places[i + 1];
            pieces[i + 1].become(pieces[i + 2]);
        }
        count--;
    }

    public boolean put(int piece, int number, int v) throws IndexOutOfBoundsException, IllegalArgumentException {
        if (piece < 0 || piece > count) {
            throw new IndexOutOfBoundsException("no such piece");
        }
        if (number < 0 || number >= NUMBERS) {
            throw new IllegalArgumentException("no such number");
        }
        if (!isWithin(v, number == POLE ? FARTHEST : LARGEST)) {
            throw new IllegalArgumentException("the number can't be that");
        }
        int[] numbers = pieces[piece].numbers;
        boolean another = numbers[number] != v;
        numbers[number] = v;
        return another;
    }

    public int at(int piece, int number) throws IndexOutOfBoundsException, IllegalArgumentException {
        if (piece < 0 || piece > count) {
            throw new IndexOutOfBoundsException("no such piece");
        }
        if (number < 0 || number >= NUMBERS) {
            throw new IllegalArgumentException("no such number");
        }
        return pieces[piece].numbers[number];
    }

    public int place(int k) throws IndexOutOfBoundsException {
        if (k < 0 || k >= count) {
            throw new IndexOutOfBoundsException("no such cut");
        }
        return places[k];
    }

    public void mirror() {
        for (int i = 0, j = count - 1; i <= j; i++, j--) {
            int place = places[i];
            places[i] = -places[j];
            places[j] = -place;
        }
        for (int i = 0, j = count; i < j; i++, j--) {
            Piece piece = pieces[i];
            pieces[i] = pieces[j];
            pieces[j] = piece;
        }
        for (int i = 0; i <= count; i++) {
            pieces[i].turnRound();
        }
    }

    public long value(int x, int part) throws IllegalArgumentException, IllegalStateException {
        if (!isWithin(x, FARTHEST) || !isPart(part)) {
            throw new IllegalArgumentException("no such place or part");
        }
        Piece piece = pieces[pieceAt(x)];
        if (!piece.hasPole()) {
            return lowestTerms(piece.powersAt(x), 1, part);
        }
        long distance = x - piece.numbers[POLE];
        if (distance == 0) {
            throw new IllegalStateException("a pole is there");
        }
        long below = distance * distance * distance;
        return lowestTerms(piece.powersAt(x) * below + piece.abovePoleAt(distance), below, part);
    }

    public boolean integral(int from, int to) throws IllegalArgumentException {
        if (!isEnd(from) || !isEnd(to)) {
            throw new IllegalArgumentException("no such ends");
        }
        known = addParts(Math.min(from, to), Math.max(from, to), from <= to ? 1 : -1);
        return known;
    }

    public long fraction(int part) throws IllegalStateException, IllegalArgumentException {
        if (!known) {
            throw new IllegalStateException("no integral is known");
        }
        if (!isPart(part)) {
            throw new IllegalArgumentException("no such part");
        }
        return lowestTerms(sum.above, COMMON_BELOW, part);
    }

    public int logarithm(int prime) throws IllegalStateException, IllegalArgumentException {
        if (!known) {
            throw new IllegalStateException("no integral is known");
        }
        for (int i = 0; i < PRIMES.length; i++) {
            if (PRIMES[i] == prime) {
                return sum.logarithms[i];
            }
        }
        throw new IllegalArgumentException("not 2, 3, 5, 7 or 11");
    }

    public int symmetry() {
        boolean even = isMirrored(1);
        boolean odd = isMirrored(-1);
        if (even && odd) {
            return 2;
        }
        return even ? 1 : odd ? -1 : 0;
    }

    public int cuts() {
        return count;
    }

    /** The PIECES behind the first one need no wiping: cut() writes them before they are read. */
    public void clear() {
        count = 0;
        known = false;
        pieces[0].wipe();
    }

    private static boolean isWithin(int v, int most) {
        return v >= -most && v <= most;
    }

    private static boolean isPart(int part) {
        return part == 0 || part == 1;
    }

    private static boolean isEnd(int x) {
        return isWithin(x, FARTHEST) || isEndless(x);
    }

    private static boolean isEndless(int x) {
        return x == ENDLESS || x == -ENDLESS;
    }

    private boolean isCut(int x) {
        for (int i = 0; i < count; i++) {
            if (places[i] == x) {
                return true;
            }
        }
        return false;
    }

    private int pieceAt(int x) {
        int piece = 0;
        for (int i = 0; i < count; i++) {
            if (places[i] <= x) {
                piece++;
            }
        }
        return piece;
    }

    private int leftBorder(int piece) {
        return piece > 0 && piece <= count ? places[piece - 1] : -ENDLESS;
    }

    private int rightBorder(int piece) {
        return piece >= 0 && piece < count ? places[piece] : ENDLESS;
    }

    /** False, the sum then being of no use, if a part DIVERGES. */
    private boolean addParts(int left, int right, int sign) {
        sum.wipe();
        for (int i = 0; i <= count; i++) {
            int start = Math.max(left, leftBorder(i));
            int stop = Math.min(right, rightBorder(i));
            if (start < stop) {
                if (pieces[i].diverges(start, stop)) {
                    return false;
                }
                sum.addPrimitive(pieces[i], stop, sign);
                sum.addPrimitive(pieces[i], start, -sign);
            }
        }
        return true;
    }

    /**
     * Whether the FUNCTION at -x is sign times that at x. All CUTS are whole, so no CUT is between x and
     * x + 1, and two PIECES that agree on a stretch agree as formulas; behind FARTHEST nothing new comes.
     */
    private boolean isMirrored(int sign) {
        for (int x = 0; x <= FARTHEST; x++) {
            if (!pieces[pieceAt(x)].mirrors(pieces[pieceAt(-x - 1)], sign)) {
                return false;
            }
        }
        return true;
    }

    /** Below may be less than 0, but not 0. */
    private static long lowestTerms(long above, long below, int part) {
        long shared = greatestDivisor(above, below);
        if (shared == 0) {
            return 0;
        }
        return (part == 0 ? above : below) / (below < 0 ? -shared : shared);
    }

    private static long greatestDivisor(long a, long b) {
        long larger = a;
        long less = b;
        for (int step = 0; step < MOST_STEPS && less != 0; step++) {
            long rest = larger % less;
            larger = less;
            less = rest;
        }
        return Math.abs(larger);
    }

    private static int timesIn(int prime, int n) {
        int rest = n;
        int times = 0;
        while (times < MOST_TIMES && prime > 1 && rest >= prime && rest % prime == 0) {
            rest /= prime;
            times++;
        }
        return times;
    }

    /** c0 .. c3, a1 .. a3 and p of one PIECE. */
    private static final class Piece {
        private final int[] numbers = new int[NUMBERS];

        private void wipe() {
            Arrays.fill(numbers, 0);
        }

        private void become(Piece other) {
            System.arraycopy(other.numbers, 0, numbers, 0, NUMBERS);
        }

        private void turnRound() {
            for (int i = 0; i < NUMBERS; i++) {
                numbers[i] *= MIRROR_SIGNS[i];
            }
        }

        private boolean hasPole() {
            return numbers[A1] != 0 || numbers[A2] != 0 || numbers[A3] != 0;
        }

        /** Whether its area is endless on a side without end; a2 and a3 alone fall fast enough. */
        private boolean hasEndlessTail() {
            for (int i = 0; i <= A1; i++) {
                if (numbers[i] != 0) {
                    return true;
                }
            }
            return false;
        }

        private boolean diverges(int start, int stop) {
            boolean meetsPole = hasPole() && numbers[POLE] >= start && numbers[POLE] <= stop;
            boolean endless = isEndless(start) || isEndless(stop);
            return meetsPole || endless && hasEndlessTail();
        }

        private long powersAt(long x) {
            return numbers[0] + x * (numbers[1] + x * (numbers[2] + x * numbers[3]));
        }

        /** What a1 .. a3 give, above the third power of the distance from the pole. */
        private long abovePoleAt(long distance) {
            return numbers[A3] + distance * (numbers[A2] + distance * numbers[A1]);
        }

        private long twelfthsOfPowersPrimitive(long x) {
            return x * (12 * numbers[0] + x * (6 * numbers[1] + x * (4 * numbers[2] + x * 3 * numbers[3])));
        }

        /** Where p means nothing, a1 .. a3 being 0, it may be anything. */
        private boolean mirrors(Piece other, int sign) {
            for (int i = 0; i < POLE; i++) {
                if (numbers[i] != sign * MIRROR_SIGNS[i] * other.numbers[i]) {
                    return false;
                }
            }
            return !hasPole() || numbers[POLE] == -other.numbers[POLE];
        }
    }

    /** An INTEGRAL: above over COMMON_BELOW, and how often the logarithm of each of PRIMES. */
    private static final class Sum {
        private long above = 0;
        private final int[] logarithms = new int[PRIMES.length];

        private void wipe() {
            above = 0;
            Arrays.fill(logarithms, 0);
        }

        /** Without end it is 0: there only a2 and a3 are left of a PIECE that doesn't DIVERGE. */
        private void addPrimitive(Piece piece, int x, int sign) {
            if (isEndless(x)) {
                return;
            }
            above += sign * piece.twelfthsOfPowersPrimitive(x) * (COMMON_BELOW / 12);
            int distance = x - piece.numbers[POLE];
            if (piece.hasPole() && distance != 0) {
                above -= sign * piece.numbers[A2] * (COMMON_BELOW / distance);
                above -= sign * piece.numbers[A3] * (COMMON_BELOW / (2 * distance * distance));
                addLogarithm(Math.abs(distance), sign * piece.numbers[A1]);
            }
        }

        private void addLogarithm(int n, int often) {
            for (int i = 0; i < PRIMES.length; i++) {
                logarithms[i] += often * timesIn(PRIMES[i], n);
            }
        }
    }
}
