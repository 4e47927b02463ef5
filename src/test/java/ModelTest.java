import java.util.Random;

/** Long mixed runs, always the same ones, of the class and of Model side by side. */
public final class ModelTest {
    private static final int RUNS = 1000;
    /** The document promises nothing behind it. */
    private static final int MOST_CALLS = 512;
    /** No step makes as many calls as this, nor does the look at the whole state. */
    private static final int CALLS_IN_RESERVE = 60;
    private static final int[] PRIMES = {2, 3, 5, 7, 11};
    private static final int[] WRONG = {-10, -9, -8, -7, -1, 4, 7, 8, 9, 10, 13, Integer.MIN_VALUE, Integer.MAX_VALUE};

    private final Random random;
    private final DefiniteRows rows = new DefiniteRows();
    private final Model model = new Model();
    private final String run;
    private int calls = 0;

    private ModelTest(int seed) {
        random = new Random(seed);
        run = "run " + seed + ": ";
    }

    public static void main(String[] args) {
        for (int seed = 0; seed < RUNS; seed++) {
            ModelTest test = new ModelTest(seed);
            while (test.calls < MOST_CALLS - 2 * CALLS_IN_RESERVE) {
                test.step();
            }
            test.compareStates();
            Check.due(test.run + "calls", test.calls <= MOST_CALLS, true);
        }
        Check.end("ModelTest");
    }

    private void step() {
        int kind = random.nextInt(100);
        if (kind < 30) {
            put(some(0, model.cuts()), some(0, 7), random.nextInt(4) == 0 ? some(-6, 6) : some(-2, 2));
        } else if (kind < 38) {
            int x = some(-6, 6);
            same("cut(" + x + ")", () -> rows.cut(x), () -> model.cut(x));
        } else if (kind < 42) {
            int k = some(0, 2);
            same("join(" + k + ")", () -> done(() -> rows.join(k)), () -> done(() -> model.join(k)));
        } else if (kind < 46) {
            same("mirror()", () -> done(rows::mirror), () -> done(model::mirror));
        } else if (kind < 60) {
            value(some(-6, 6), some(0, 1));
        } else if (kind < 85) {
            integral(some(0, 3) == 0 ? -9 : some(-6, 6), some(0, 3) == 0 ? 9 : some(-6, 6));
        } else if (kind < 90) {
            wipePiece();
        } else if (kind < 99) {
            makeSymmetric();
        } else {
            same("clear()", () -> done(rows::clear), () -> done(model::clear));
        }
        ask();
    }

    /** One of the calls that change nothing; the whole state is looked at behind each run alone. */
    private void ask() {
        int kind = random.nextInt(10);
        if (kind < 4) {
            int piece = some(0, 3);
            int number = some(0, 7);
            same("at(" + piece + ", " + number + ")", () -> rows.at(piece, number), () -> model.at(piece, number));
        } else if (kind < 5) {
            int k = some(0, 2);
            same("place(" + k + ")", () -> rows.place(k), () -> model.place(k));
        } else if (kind < 6) {
            same("cuts()", rows::cuts, model::cuts);
        } else if (kind < 7) {
            same("symmetry()", rows::symmetry, model::symmetry);
        } else if (kind < 8) {
            int prime = PRIMES[random.nextInt(PRIMES.length)];
            same("logarithm(" + prime + ")", () -> rows.logarithm(prime), () -> model.logarithm(prime));
        } else {
            int part = some(0, 1);
            same("fraction(" + part + ")", () -> rows.fraction(part), () -> model.fraction(part));
        }
    }

    /** Mostly in the range, at times beside it. */
    private int some(int least, int most) {
        if (random.nextInt(25) == 0) {
            return WRONG[random.nextInt(WRONG.length)];
        }
        return within(least, most);
    }

    private int within(int least, int most) {
        return least + random.nextInt(most - least + 1);
    }

    private void put(int piece, int number, int v) {
        same("put(" + piece + ", " + number + ", " + v + ")", () -> rows.put(piece, number, v) ? 1 : 0,
            () -> model.put(piece, number, v) ? 1 : 0);
    }

    private void value(int x, int part) {
        same("value(" + x + ", " + part + ")", () -> rows.value(x, part), () -> model.value(x, part));
    }

    private void integral(int from, int to) {
        String call = "integral(" + from + ", " + to + ")";
        same(call, () -> rows.integral(from, to) ? 1 : 0, () -> model.integral(from, to) ? 1 : 0);
        compareKnown();
        if (Math.abs((long) from) > 6 || Math.abs((long) to) > 6 || !model.isKnown()) {
            return;
        }
        double exact = (double) model.fraction(0) / model.fraction(1);
        for (int prime : PRIMES) {
            exact += model.logarithm(prime) * Math.log(prime);
        }
        double rough = model.roughIntegral(from, to);
        Check.due(run + call + " is about " + rough + ", not " + exact, Math.abs(exact - rough) < 1e-4, true);
    }

    /** Few functions converge without end or are 0 by chance. */
    private void wipePiece() {
        int piece = within(0, model.cuts());
        for (int number = 0; number <= 4; number++) {
            put(piece, number, 0);
        }
        if (random.nextBoolean()) {
            put(piece, 5, 0);
            put(piece, 6, 0);
        }
    }

    /** The right half becomes that to the left, as it is or less that, but at times for one number. */
    private void makeSymmetric() {
        while (model.cuts() > 0) {
            same("join(0)", () -> done(() -> rows.join(0)), () -> done(() -> model.join(0)));
        }
        int inner = within(1, 6);
        int middle = random.nextBoolean() ? 0 : inner;
        for (int x : new int[] {inner, -inner, middle}) {
            same("cut(" + x + ")", () -> rows.cut(x), () -> model.cut(x));
        }
        int sign = random.nextBoolean() ? 1 : -1;
        int[] signs = {1, -1, 1, -1, -1, 1, -1};
        int last = model.cuts();
        for (int piece = 0; piece < last - piece; piece++) {
            for (int number = 0; number < 7; number++) {
                put(last - piece, number, sign * signs[number] * model.at(piece, number));
            }
            put(last - piece, 7, -model.at(piece, 7));
        }
        if (last % 2 == 0) {
            for (int number = 0; number < 8; number++) {
                boolean keep = number < 7 && signs[number] == sign;
                put(last / 2, number, keep ? model.at(last / 2, number) : 0);
            }
        }
        if (random.nextInt(3) == 0) {
            put(within(0, last), within(0, 7), within(-1, 1));
        }
        same("symmetry()", rows::symmetry, model::symmetry);
    }

    private void compareStates() {
        same("cuts()", rows::cuts, model::cuts);
        same("symmetry()", rows::symmetry, model::symmetry);
        for (int piece = 0; piece <= 4; piece++) {
            int p = piece;
            same("place(" + p + ")", () -> rows.place(p), () -> model.place(p));
            for (int number = 0; number <= 8; number++) {
                int n = number;
                same("at(" + p + ", " + n + ")", () -> rows.at(p, n), () -> model.at(p, n));
            }
        }
        compareKnown();
    }

    private void compareKnown() {
        for (int part = 0; part <= 1; part++) {
            int p = part;
            same("fraction(" + p + ")", () -> rows.fraction(p), () -> model.fraction(p));
        }
        for (int prime : PRIMES) {
            same("logarithm(" + prime + ")", () -> rows.logarithm(prime), () -> model.logarithm(prime));
        }
    }

    private void same(String call, Check.Call got, Check.Call want) {
        calls++;
        Check.due(run + call, Check.answerOf(got), Check.answerOf(want));
    }

    private static long done(Runnable call) {
        call.run();
        return 0;
    }
}
