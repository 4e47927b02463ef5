/** What the tests by hand share: objects to begin with, and what is due of them. */
class Dues {
    static final Class<IllegalArgumentException> ARGUMENT = IllegalArgumentException.class;
    static final Class<IllegalStateException> STATE = IllegalStateException.class;
    static final Class<IndexOutOfBoundsException> INDEX = IndexOutOfBoundsException.class;

    static DefiniteRows rows(int... numbers) {
        DefiniteRows x = new DefiniteRows();
        for (int i = 0; i < numbers.length; i++) {
            x.put(0, i, numbers[i]);
        }
        return x;
    }

    /** CUTS -4, 0 and 4; PIECE i is i + 1 everywhere and its p, that means nothing, less that. */
    static DefiniteRows fourPieces() {
        DefiniteRows x = new DefiniteRows();
        x.cut(-4);
        x.cut(0);
        x.cut(4);
        for (int i = 0; i < 4; i++) {
            x.put(i, 0, i + 1);
            x.put(i, 7, -i - 1);
        }
        return x;
    }

    /** The first that isn't allowed on both sides, some more, and those where sums of ints wrap around. */
    static int[] beside(int least, int most) {
        return new int[] {
            least - 1, most + 1, least - 2, most + 2, least - 256, most + 256, Integer.MIN_VALUE,
            Integer.MIN_VALUE + 1, Integer.MIN_VALUE + most, Integer.MAX_VALUE, Integer.MAX_VALUE - 1,
            Integer.MAX_VALUE + least,
        };
    }

    static long power(long x, int often) {
        long product = 1;
        for (int i = 0; i < often; i++) {
            product *= x;
        }
        return product;
    }

    static long number(boolean answer) {
        return answer ? 1 : 0;
    }

    static long done(Runnable call) {
        call.run();
        return 0;
    }

    /** All that can be asked without a change, in less than 100 calls. */
    static String stateOf(DefiniteRows x) {
        StringBuilder state = new StringBuilder();
        tell(state, "cuts", x::cuts);
        tell(state, "symmetry", x::symmetry);
        for (int i = 0; i <= 3; i++) {
            int k = i;
            tell(state, "place", () -> x.place(k));
            for (int number = 0; number <= 7; number++) {
                int n = number;
                tell(state, "at", () -> x.at(k, n));
            }
        }
        for (int at = -6; at <= 6; at++) {
            int place = at;
            tell(state, "value", () -> x.value(place, 0));
            tell(state, "value", () -> x.value(place, 1));
        }
        tell(state, "fraction", () -> x.fraction(0));
        tell(state, "fraction", () -> x.fraction(1));
        for (int prime : new int[] {2, 3, 5, 7, 11}) {
            tell(state, "logarithm", () -> x.logarithm(prime));
        }
        return state.toString();
    }

    static void tell(StringBuilder told, String what, Check.Call call) {
        told.append(what).append(' ').append(Check.answerOf(call)).append("; ");
    }

    static void numbersDue(String what, DefiniteRows x, int piece, int... numbers) {
        for (int i = 0; i < numbers.length; i++) {
            Check.due(what + ": at(" + piece + ", " + i + ")", x.at(piece, i), numbers[i]);
        }
    }

    static void placesDue(String what, DefiniteRows x, int... places) {
        Check.due(what + ": cuts()", x.cuts(), places.length);
        for (int i = 0; i < places.length; i++) {
            int k = i;
            Check.due(what + ": place(" + k + ")", Check.answerOf(() -> x.place(k)), Integer.toString(places[k]));
        }
    }

    static void valueDue(String what, DefiniteRows x, int at, long above, long below) {
        Check.due(what + ": value(" + at + ", 0)", Check.answerOf(() -> x.value(at, 0)), Long.toString(above));
        Check.due(what + ": value(" + at + ", 1)", Check.answerOf(() -> x.value(at, 1)), Long.toString(below));
    }

    static void integralDue(String what, DefiniteRows x, int from, int to, long above, long below,
            int... logarithms) {
        String call = what + ": integral(" + from + ", " + to + ")";
        Check.due(call, x.integral(from, to), true);
        fractionDue(call, x, above, below);
        logarithmsDue(call, x, logarithms);
    }

    static void divergesDue(String what, DefiniteRows x, int from, int to) {
        Check.due("before " + what, x.integral(1, 1), true);
        Check.due(what + ": integral(" + from + ", " + to + ")", x.integral(from, to), false);
        unknownDue(what, x);
    }

    static void fractionDue(String what, DefiniteRows x, long above, long below) {
        Check.due(what + ": fraction(0)", Check.answerOf(() -> x.fraction(0)), Long.toString(above));
        Check.due(what + ": fraction(1)", Check.answerOf(() -> x.fraction(1)), Long.toString(below));
    }

    /** Those that are not given are 0. */
    static void logarithmsDue(String what, DefiniteRows x, int... often) {
        int[] primes = {2, 3, 5, 7, 11};
        for (int i = 0; i < primes.length; i++) {
            int prime = primes[i];
            int want = i < often.length ? often[i] : 0;
            Check.due(what + ": logarithm(" + prime + ")", Check.answerOf(() -> x.logarithm(prime)),
                Integer.toString(want));
        }
    }

    static void unknownDue(String what, DefiniteRows x) {
        for (int part = -1; part <= 2; part++) {
            int p = part;
            Check.refused(what + ": fraction(" + p + ")", STATE, () -> x.fraction(p));
        }
        for (int prime : new int[] {2, 3, 5, 7, 11, 4, 0, -1}) {
            Check.refused(what + ": logarithm(" + prime + ")", STATE, () -> x.logarithm(prime));
        }
    }
}
