/** Each promise by hand: ordinary inputs, the edges that the document names, wrong inputs. */
public final class PromisesTest extends Dues {
    public static void main(String[] args) {
        promise1NewObject();
        promise2Cut();
        promise2CutRefuses();
        promise3Join();
        promise4Put();
        promise5At();
        promise6Place();
        promise7Mirror();
        promise8Value();
        promise8ValueRefuses();
        promise9IntegralOfPowers();
        promise9IntegralOfPoles();
        promise9IntegralDiverges();
        promise9IntegralWithoutEnd();
        promise9IntegralOverPieces();
        promise9IntegralRefuses();
        promise10Fraction();
        promise11Logarithm();
        promise12Symmetry();
        promise12SymmetryInPieces();
        promise13Cuts();
        promise14Clear();
        Check.end("PromisesTest");
    }

    private static void promise1NewObject() {
        DefiniteRows x = new DefiniteRows();
        Check.due("new: cuts", x.cuts(), 0);
        numbersDue("new", x, 0, 0, 0, 0, 0, 0, 0, 0, 0);
        Check.refused("new: piece 1", INDEX, () -> x.at(1, 0));
        unknownDue("new", x);
        Check.due("new: symmetry", x.symmetry(), 2);
        for (int at = -6; at <= 6; at++) {
            valueDue("new", x, at, 0, 1);
        }
        DefiniteRows other = new DefiniteRows();
        other.cut(2);
        other.put(0, 0, 3);
        other.integral(0, 1);
        Check.due("another object's cut", x.cuts(), 0);
        Check.due("another object's number", x.at(0, 0), 0);
        unknownDue("another object's integral", x);
    }

    private static void promise2Cut() {
        DefiniteRows x = rows(1, 2, 3, 4, 5, -1, -2, 6);
        Check.due("cut(-6)", x.cut(-6), 0);
        Check.due("cut(6)", x.cut(6), 1);
        numbersDue("cut copies 0", x, 0, 1, 2, 3, 4, 5, -1, -2, 6);
        numbersDue("cut copies 1", x, 1, 1, 2, 3, 4, 5, -1, -2, 6);
        numbersDue("cut copies 2", x, 2, 1, 2, 3, 4, 5, -1, -2, 6);
        x.put(0, 0, 0);
        x.put(1, 0, -1);
        x.put(2, 0, -2);
        Check.due("cut between", x.cut(0), 1);
        placesDue("cut between", x, -6, 0, 6);
        numbersDue("left of all", x, 0, 0, 2, 3, 4, 5, -1, -2, 6);
        numbersDue("left half", x, 1, -1, 2, 3, 4, 5, -1, -2, 6);
        numbersDue("right half", x, 2, -1, 2, 3, 4, 5, -1, -2, 6);
        numbersDue("right of all", x, 3, -2, 2, 3, 4, 5, -1, -2, 6);
        x.put(1, 0, 4);
        Check.due("the halves are apart", x.at(2, 0), -1);
        DefiniteRows falling = new DefiniteRows();
        Check.due("cut(5)", falling.cut(5), 0);
        Check.due("cut(1)", falling.cut(1), 0);
        Check.due("cut(-3)", falling.cut(-3), 0);
        placesDue("falling", falling, -3, 1, 5);
    }

    private static void promise2CutRefuses() {
        DefiniteRows x = new DefiniteRows();
        for (int at : new int[] {-7, 7, -9, 9, Integer.MIN_VALUE, Integer.MAX_VALUE}) {
            Check.refused("cut(" + at + ")", ARGUMENT, () -> x.cut(at));
        }
        x.cut(0);
        Check.refused("cut(0) again", ARGUMENT, () -> x.cut(0));
        Check.due("a refused cut changes nothing", x.cuts(), 1);
        x.cut(1);
        x.cut(2);
        Check.refused("a fourth", STATE, () -> x.cut(3));
        Check.refused("a fourth that is one", ARGUMENT, () -> x.cut(1));
        Check.refused("a fourth that can't be one", ARGUMENT, () -> x.cut(7));
        placesDue("refused cuts", x, 0, 1, 2);
        x.join(1);
        Check.due("a third again", x.cut(1), 1);
    }

    private static void promise3Join() {
        for (int k = 0; k < 3; k++) {
            DefiniteRows x = fourPieces();
            x.join(k);
            int[] places = {-4, 0, 4};
            Check.due("join: cuts", x.cuts(), 2);
            for (int i = 0; i < 2; i++) {
                Check.due("join(" + k + "): place " + i, x.place(i), places[i < k ? i : i + 1]);
            }
            for (int i = 0; i < 3; i++) {
                int c0 = (i <= k ? i : i + 1) + 1;
                numbersDue("join(" + k + ")", x, i, c0, 0, 0, 0, 0, 0, 0, -c0);
            }
            Check.refused("join: piece 3 is gone", INDEX, () -> x.at(3, 0));
        }
        DefiniteRows x = fourPieces();
        for (int k : new int[] {-1, 3, 4, Integer.MIN_VALUE, Integer.MAX_VALUE}) {
            Check.refused("join(" + k + ")", INDEX, () -> done(() -> x.join(k)));
        }
        placesDue("refused joins", x, -4, 0, 4);
        x.join(0);
        x.join(0);
        x.join(0);
        numbersDue("joined all", x, 0, 1, 0, 0, 0, 0, 0, 0, -1);
        Check.refused("join without cuts", INDEX, () -> done(() -> x.join(0)));
    }

    private static void promise4Put() {
        DefiniteRows x = new DefiniteRows();
        x.cut(0);
        for (int number = 0; number < 8; number++) {
            int n = number;
            int most = number == 7 ? 6 : 5;
            Check.due("put the same", x.put(1, n, 0), false);
            Check.due("put the most", x.put(1, n, most), true);
            Check.due("put it again", x.put(1, n, most), false);
            Check.due("put the least", x.put(1, n, -most), true);
            Check.due("it is there", x.at(1, n), -most);
            Check.due("it is there alone", x.at(0, n), 0);
            for (int v : new int[] {most + 1, -most - 1, Integer.MIN_VALUE, Integer.MAX_VALUE}) {
                Check.refused("put(1, " + n + ", " + v + ")", ARGUMENT, () -> number(x.put(1, n, v)));
            }
            Check.due("a refused put changes nothing", x.at(1, n), -most);
        }
        for (int n : new int[] {-1, 8, Integer.MIN_VALUE, Integer.MAX_VALUE}) {
            Check.refused("put number " + n, ARGUMENT, () -> number(x.put(0, n, 0)));
        }
        for (int piece : new int[] {-1, 2, 3, 4, Integer.MIN_VALUE, Integer.MAX_VALUE}) {
            Check.refused("put piece " + piece, INDEX, () -> number(x.put(piece, 0, 0)));
            Check.refused("put piece " + piece + ", the rest wrong too", INDEX, () -> number(x.put(piece, 8, 9)));
        }
    }

    private static void promise5At() {
        DefiniteRows x = rows(-5, -4, -3, -2, 2, 3, 4, 5);
        numbersDue("at", x, 0, -5, -4, -3, -2, 2, 3, 4, 5);
        for (int n : new int[] {-1, 8, Integer.MIN_VALUE, Integer.MAX_VALUE}) {
            Check.refused("at number " + n, ARGUMENT, () -> x.at(0, n));
        }
        for (int piece : new int[] {-1, 1, 4, Integer.MIN_VALUE, Integer.MAX_VALUE}) {
            Check.refused("at piece " + piece, INDEX, () -> x.at(piece, 0));
            Check.refused("at piece " + piece + ", no such number", INDEX, () -> x.at(piece, 8));
        }
    }

    private static void promise6Place() {
        DefiniteRows x = new DefiniteRows();
        Check.refused("place(0) without cuts", INDEX, () -> x.place(0));
        x.cut(6);
        x.cut(-6);
        placesDue("place", x, -6, 6);
        for (int k : new int[] {-1, 2, 3, Integer.MIN_VALUE, Integer.MAX_VALUE}) {
            Check.refused("place(" + k + ")", INDEX, () -> x.place(k));
        }
    }

    private static void promise7Mirror() {
        DefiniteRows x = rows(1, 2, 3, 4, 5, -4, -3, -2);
        x.mirror();
        numbersDue("mirror", x, 0, 1, -2, 3, -4, -5, -4, 3, 2);
        DefiniteRows y = fourPieces();
        y.join(0);
        y.cut(-5);
        y.put(0, 1, 5);
        y.mirror();
        placesDue("mirror", y, -4, 0, 5);
        numbersDue("mirror: first", y, 0, 4, 0, 0, 0, 0, 0, 0, 4);
        numbersDue("mirror: second", y, 1, 3, 0, 0, 0, 0, 0, 0, 3);
        numbersDue("mirror: third", y, 2, 1, 0, 0, 0, 0, 0, 0, 1);
        numbersDue("mirror: last", y, 3, 1, -5, 0, 0, 0, 0, 0, 1);
        valueDue("mirror: a cut is in the piece to its right", y, 0, 1, 1);
        DefiniteRows z = new DefiniteRows();
        z.cut(2);
        z.put(1, 0, 3);
        z.integral(0, 3);
        z.mirror();
        placesDue("mirror: one cut", z, -2);
        valueDue("mirror: left of the cut", z, -3, 3, 1);
        valueDue("mirror: at the cut", z, -2, 0, 1);
        fractionDue("mirror leaves the known integral", z, 3, 1);
        z.mirror();
        placesDue("mirror twice", z, 2);
        Check.due("mirror twice: 0", z.at(0, 0), 0);
        Check.due("mirror twice: 1", z.at(1, 0), 3);
    }

    private static void promise8Value() {
        DefiniteRows x = rows(1, -2, 3, -4, 0, 0, 0, 2);
        valueDue("powers", x, 3, 1 - 6 + 27 - 108, 1);
        valueDue("powers", x, -6, 1 + 12 + 108 + 864, 1);
        valueDue("p means nothing without a1 .. a3", x, 2, 1 - 4 + 12 - 32, 1);
        DefiniteRows y = rows(0, 0, 0, 0, 1, 0, 0, 6);
        valueDue("a1, below above 0", y, -6, -1, 12);
        valueDue("a1", y, 5, -1, 1);
        DefiniteRows z = rows(0, 0, 0, 0, 0, 4, 0, 1);
        valueDue("a2 in lowest terms", z, 3, 1, 1);
        valueDue("a2", z, -5, 1, 9);
        DefiniteRows w = rows(0, 0, 0, 0, 0, 0, 5, 1);
        valueDue("a3", w, -1, -5, 8);
        valueDue("a3", w, 6, 1, 25);
        DefiniteRows v = rows(5, 5, 5, 5, 5, 5, 5, -6);
        valueDue("all", v, 6, 1295L * 1728 * 1 + 5 * 144 + 5 * 12 + 5, 1728);
        DefiniteRows u = rows(1, 0, 0, 0, -3, 0, 0, 0);
        valueDue("0 is 0 / 1", u, 3, 0, 1);
        DefiniteRows p = fourPieces();
        int[] piece = {1, 1, 2, 2, 2, 2, 3, 3, 3, 3, 4, 4, 4};
        for (int at = -6; at <= 6; at++) {
            valueDue("its piece", p, at, piece[at + 6], 1);
        }
    }

    private static void promise8ValueRefuses() {
        for (int a = 4; a <= 6; a++) {
            DefiniteRows x = new DefiniteRows();
            x.put(0, a, -1);
            x.put(0, 7, 3);
            x.cut(4);
            Check.refused("a pole", STATE, () -> x.value(3, 0));
            Check.refused("a pole, part 1", STATE, () -> x.value(3, 1));
            Check.refused("a pole, part 2", ARGUMENT, () -> x.value(3, 2));
            x.put(0, 7, 4);
            Check.due("the pole of the piece to its right alone", Check.answerOf(() -> x.value(4, 1)), "1");
            x.put(1, 7, 4);
            Check.refused("a pole at a cut", STATE, () -> x.value(4, 0));
        }
        DefiniteRows x = new DefiniteRows();
        for (int at : new int[] {-7, 7, -9, 9, Integer.MIN_VALUE, Integer.MAX_VALUE}) {
            Check.refused("value(" + at + ", 0)", ARGUMENT, () -> x.value(at, 0));
        }
        for (int part : new int[] {-1, 2, Integer.MIN_VALUE, Integer.MAX_VALUE}) {
            Check.refused("value(0, " + part + ")", ARGUMENT, () -> x.value(0, part));
        }
    }

    private static void promise9IntegralOfPowers() {
        integralDue("c0", rows(3, 0, 0, 0, 0, 0, 0, 0), -2, 5, 21, 1);
        integralDue("c1", rows(0, 1, 0, 0, 0, 0, 0, 0), 0, 3, 9, 2);
        integralDue("c2", rows(0, 0, 2, 0, 0, 0, 0, 0), -1, 1, 4, 3);
        integralDue("c3", rows(0, 0, 0, 5, 0, 0, 0, 0), 1, 2, 75, 4);
        integralDue("c3 the other way round", rows(0, 0, 0, 5, 0, 0, 0, 0), 2, 1, -75, 4);
        integralDue("p means nothing", rows(5, 0, 0, 0, 0, 0, 0, 1), -6, 6, 60, 1);
        integralDue("nothing", rows(5, 5, 5, 5, 0, 0, 0, 0), 4, 4, 0, 1);
    }

    private static void promise9IntegralOfPoles() {
        int[][] distances = {
            {0, 0, 0, 0, 0}, {1, 0, 0, 0, 0}, {0, 1, 0, 0, 0}, {2, 0, 0, 0, 0}, {0, 0, 1, 0, 0}, {1, 1, 0, 0, 0},
            {0, 0, 0, 1, 0}, {3, 0, 0, 0, 0}, {0, 2, 0, 0, 0}, {1, 0, 1, 0, 0}, {0, 0, 0, 0, 1}, {2, 1, 0, 0, 0},
        };
        for (int d = 1; d <= 12; d++) {
            integralDue("a1", rows(0, 0, 0, 0, 1, 0, 0, -6), -5, d - 6, 0, 1, distances[d - 1]);
            integralDue("a1 to the left", rows(0, 0, 0, 0, -1, 0, 0, 6), 6 - d, 5, 0, 1, distances[d - 1]);
        }
        integralDue("a1 that cancels", rows(0, 0, 0, 0, 5, 0, 0, -6), 0, 6, 0, 1, 5);
        integralDue("a2", rows(0, 0, 0, 0, 0, 3, 0, -6), -5, 5, 30, 11);
        integralDue("a2 to the left", rows(0, 0, 0, 0, 0, 3, 0, 6), -5, 5, 30, 11);
        integralDue("a3", rows(0, 0, 0, 0, 0, 0, 1, 0), 1, 6, 35, 72);
        integralDue("a3 to the left", rows(0, 0, 0, 0, 0, 0, 1, 0), -6, -1, -35, 72);
        integralDue("all", rows(0, 2, 0, 0, 2, 1, -1, 0), 1, 2, 3 * 8 + 4 - 3, 8, 2);
    }

    private static void promise9IntegralDiverges() {
        for (int a = 4; a <= 6; a++) {
            DefiniteRows x = new DefiniteRows();
            x.put(0, a, 1);
            x.put(0, 7, 2);
            divergesDue("p in it", x, 0, 4);
            divergesDue("p in it, the other way round", x, 4, 0);
            divergesDue("p its right border", x, 0, 2);
            divergesDue("p its left border", x, 2, 4);
            divergesDue("p in it, no end", x, -9, 9);
            Check.due("p beside it", x.integral(3, 6), true);
            Check.due("p beside it", x.integral(-6, 1), true);
            Check.due("p where nothing is", x.integral(2, 2), true);
            fractionDue("p where nothing is", x, 0, 1);
            x.cut(2);
            x.put(0, a, 0);
            Check.due("p at the border of the other piece", x.integral(-6, 2), true);
            divergesDue("p at the border of its piece", x, -6, 3);
            x.cut(3);
            x.put(1, a, 0);
            Check.due("p not in its piece", x.integral(-6, 6), true);
        }
    }

    private static void promise9IntegralWithoutEnd() {
        for (int number = 0; number <= 4; number++) {
            DefiniteRows x = new DefiniteRows();
            x.put(0, number, -1);
            divergesDue("to the right", x, 3, 9);
            divergesDue("to the left", x, -9, -3);
            divergesDue("back from the right", x, 9, 3);
            Check.due("with ends", x.integral(3, 6), true);
            Check.due("9 to 9", x.integral(9, 9), true);
            fractionDue("9 to 9", x, 0, 1);
            Check.due("-9 to -9", x.integral(-9, -9), true);
            fractionDue("-9 to -9", x, 0, 1);
        }
        integralDue("a2 to the right", rows(0, 0, 0, 0, 0, 3, 0, -6), 6, 9, 1, 4);
        integralDue("a2 from the right", rows(0, 0, 0, 0, 0, 3, 0, -6), 9, 6, -1, 4);
        integralDue("a2 to the left", rows(0, 0, 0, 0, 0, 3, 0, 6), -9, -3, 1, 3);
        integralDue("a3 to the right", rows(0, 0, 0, 0, 0, 0, 5, 1), 2, 9, 5, 2);
        integralDue("a3 to the left", rows(0, 0, 0, 0, 0, 0, 5, 1), -9, 0, -5, 2);
        integralDue("0 everywhere", new DefiniteRows(), -9, 9, 0, 1);
        DefiniteRows x = rows(0, 0, 0, 0, 0, 1, 0, 0);
        x.cut(-1);
        x.cut(1);
        x.put(1, 5, 0);
        x.put(1, 0, 1);
        integralDue("no end on both sides", x, -9, 9, 4, 1);
        x.put(2, 4, 1);
        divergesDue("a1 without end", x, 0, 9);
        integralDue("a1 in another piece", x, -9, 0, 2, 1);
    }

    private static void promise9IntegralOverPieces() {
        DefiniteRows x = fourPieces();
        integralDue("all", x, -6, 6, 2 + 8 + 12 + 8, 1);
        integralDue("some", x, -3, 5, 6 + 12 + 4, 1);
        integralDue("one", x, 0, 4, 12, 1);
        integralDue("in one", x, 1, 2, 3, 1);
        integralDue("back", x, 5, -3, -22, 1);
        x.put(2, 0, 0);
        x.put(2, 4, 1);
        x.put(2, 7, -2);
        integralDue("with a logarithm", x, -1, 5, 6, 1, 0, 1);
        DefiniteRows y = new DefiniteRows();
        y.cut(-6);
        y.cut(6);
        y.put(0, 0, 1);
        y.put(2, 0, 1);
        integralDue("no part of the outer ones", y, -6, 6, 0, 1);
        divergesDue("the left one", y, -9, -6);
        divergesDue("the right one", y, 6, 9);
        divergesDue("the right one first", y, 9, -6);
    }

    private static void promise9IntegralRefuses() {
        DefiniteRows x = rows(1, 0, 0, 0, 0, 0, 0, 0);
        x.integral(0, 5);
        for (int end : new int[] {-10, -8, -7, 7, 8, 10, Integer.MIN_VALUE, Integer.MAX_VALUE}) {
            Check.refused("integral(" + end + ", 0)", ARGUMENT, () -> number(x.integral(end, 0)));
            Check.refused("integral(0, " + end + ")", ARGUMENT, () -> number(x.integral(0, end)));
            Check.refused("integral(9, " + end + ")", ARGUMENT, () -> number(x.integral(9, end)));
        }
        fractionDue("a refused integral leaves the known one", x, 5, 1);
    }

    private static void promise10Fraction() {
        DefiniteRows x = rows(1, 1, 0, 0, 0, 0, 0, 0);
        unknownDue("fraction", x);
        x.integral(0, 1);
        fractionDue("fraction", x, 3, 2);
        for (int part : new int[] {-1, 2, Integer.MIN_VALUE, Integer.MAX_VALUE}) {
            Check.refused("fraction(" + part + ")", ARGUMENT, () -> x.fraction(part));
        }
        x.put(0, 0, 5);
        x.cut(0);
        x.join(0);
        x.mirror();
        fractionDue("it stays known", x, 3, 2);
        x.integral(0, 9);
        unknownDue("none is known", x);
        x.integral(1, 1);
        fractionDue("0 is 0 / 1", x, 0, 1);
    }

    private static void promise11Logarithm() {
        DefiniteRows x = rows(0, 0, 0, 0, 1, 0, 0, -6);
        unknownDue("logarithm", x);
        x.integral(5, 6);
        logarithmsDue("12 / 11", x, 2, 1, 0, 0, -1);
        for (int n : new int[] {-2, -1, 0, 1, 4, 6, 8, 9, 10, 12, 13, Integer.MIN_VALUE, Integer.MAX_VALUE}) {
            Check.refused("logarithm(" + n + ")", ARGUMENT, () -> x.logarithm(n));
        }
        x.integral(-1, 1);
        x.clear();
        unknownDue("logarithm, cleared", x);
        DefiniteRows y = rows(0, 0, 0, 0, -5, 0, 0, -6);
        y.integral(-1, 1);
        y.put(0, 4, 0);
        logarithmsDue("(7 / 5) to the -5", y, 0, 0, 5, -5, 0);
        y.integral(-1, 1);
        logarithmsDue("none of the last integral is left", y, 0, 0, 0, 0, 0);
    }

    private static void promise12Symmetry() {
        int[] due = {1, -1, 1, -1, -1, 1, -1};
        for (int number = 0; number < 7; number++) {
            DefiniteRows x = new DefiniteRows();
            x.put(0, number, 4);
            Check.due("symmetry, number " + number, x.symmetry(), due[number]);
            x.put(0, 7, 1);
            Check.due("symmetry, number " + number + ", p 1", x.symmetry(), number < 4 ? due[number] : 0);
        }
        Check.due("even and odd", rows(1, 1, 0, 0, 0, 0, 0, 0).symmetry(), 0);
        Check.due("even", rows(1, 0, -2, 0, 0, 3, 0, 0).symmetry(), 1);
        Check.due("odd", rows(0, 1, 0, 5, -2, 0, 1, 0).symmetry(), -1);
        Check.due("odd but for a2", rows(0, 1, 0, 5, -2, 1, 1, 0).symmetry(), 0);
        Check.due("0, but p", rows(0, 0, 0, 0, 0, 0, 0, 5).symmetry(), 2);
    }

    private static void promise12SymmetryInPieces() {
        DefiniteRows x = rows(0, 0, 1, 0, 0, 0, 0, 0);
        x.cut(3);
        x.cut(-5);
        Check.due("pieces that are the same", x.symmetry(), 1);
        x.put(1, 7, 3);
        Check.due("p means nothing", x.symmetry(), 1);
        x.put(2, 0, 1);
        Check.due("another one to the right", x.symmetry(), 0);
        x.put(2, 0, 0);
        x.put(0, 0, 1);
        Check.due("another one to the left", x.symmetry(), 0);
        DefiniteRows y = new DefiniteRows();
        y.cut(6);
        y.put(1, 0, 1);
        Check.due("beyond 6 alone", y.symmetry(), 0);
        y.cut(-6);
        y.put(0, 0, 1);
        Check.due("beyond 6 on both sides", y.symmetry(), 1);
        y.put(0, 0, -1);
        Check.due("beyond 6, less that", y.symmetry(), -1);
        y.put(0, 6, 2);
        y.put(0, 7, 4);
        y.put(2, 6, 2);
        y.put(2, 7, -4);
        Check.due("poles", y.symmetry(), -1);
        y.put(2, 7, 4);
        Check.due("poles at other places", y.symmetry(), 0);
        DefiniteRows z = new DefiniteRows();
        z.cut(0);
        z.put(1, 0, 1);
        Check.due("0 to the left alone", z.symmetry(), 0);
        z.put(0, 0, -1);
        Check.due("the value at the cut does not count", z.symmetry(), -1);
        z.cut(1);
        Check.due("a cut of no effect", z.symmetry(), -1);
        z.put(1, 0, 2);
        Check.due("from 0 to 1 alone", z.symmetry(), 0);
    }

    private static void promise13Cuts() {
        DefiniteRows x = new DefiniteRows();
        int[] places = {4, -4, 0};
        for (int i = 0; i < 3; i++) {
            Check.due("cuts", x.cuts(), i);
            x.cut(places[i]);
        }
        Check.due("cuts", x.cuts(), 3);
        x.mirror();
        Check.due("mirrored cuts", x.cuts(), 3);
        x.join(1);
        Check.due("cuts", x.cuts(), 2);
    }

    private static void promise14Clear() {
        DefiniteRows x = fourPieces();
        for (int number = 0; number < 8; number++) {
            x.put(0, number, 2);
        }
        x.integral(3, 4);
        x.clear();
        Check.due("clear: cuts", x.cuts(), 0);
        Check.refused("clear: no cut", INDEX, () -> x.place(0));
        Check.refused("clear: no piece 1", INDEX, () -> x.at(1, 0));
        numbersDue("clear", x, 0, 0, 0, 0, 0, 0, 0, 0, 0);
        unknownDue("clear", x);
        Check.due("clear: symmetry", x.symmetry(), 2);
        x.cut(1);
        numbersDue("clear, then cut", x, 1, 0, 0, 0, 0, 0, 0, 0, 0);
    }
}
