/** The sentences of the sections 'Promise 1' to 'Promise 14', each at its edges. */
public final class EdgesTest extends Dues {
    private static final int[] PLACES = {-4, 0, 4};

    public static void main(String[] args) {
        newObjectIsZero();
        newObjectKnowsNone();
        oneCutMore();
        twoThatAreTheSame();
        theTwoAreApart();
        whichCutItIs();
        cutThatCannotBe();
        cutThatIsOne();
        cutBesideThree();
        joinCutGoes();
        joinReachesAsFar();
        joinLastCut();
        joinNoSuchCut();
        putWhetherAnother();
        putOneNumberAlone();
        putNoSuchNumber();
        putNoSuchPiece();
        atEachNumber();
        atNoSuchNumber();
        atNoSuchPiece();
        placeOfEachCut();
        placeNoSuchCut();
        mirrorTurnsFunction();
        mirrorNumbers();
        mirrorCutsToTheRight();
        mirrorTwice();
        valueAtEdges();
        valueOtherPlaceOrPart();
        valueAtPole();
        valueAtPoleOfItsPiece();
        integralWhether();
        integralElseNone();
        fractionParts();
        fractionNoneKnown();
        logarithmOfEachPrime();
        logarithmOfNoPrime();
        logarithmNoneKnown();
        symmetryEvenStretches();
        symmetryOddStretches();
        symmetryBoth();
        symmetryNeither();
        symmetryBesideCutsAndPoles();
        howManyCuts();
        clearEverything();
        clearThenUse();
        clearWhatIsClear();
        Check.end("EdgesTest");
    }

    private static void newObjectIsZero() {
        Check.sentence("DefiniteRows(): 0 everywhere");
        DefiniteRows x = new DefiniteRows();
        for (int at = -6; at <= 6; at++) {
            valueDue("new", x, at, 0, 1);
        }
        Check.due("new: symmetry", x.symmetry(), 2);
        integralDue("new", x, -9, 9, 0, 1);
        for (int k = 0; k < 3; k++) {
            x.cut(PLACES[k]);
            numbersDue("new, then cut", x, k + 1, 0, 0, 0, 0, 0, 0, 0, 0);
        }
    }

    private static void newObjectKnowsNone() {
        Check.sentence("DefiniteRows(): no INTEGRAL is known.");
        DefiniteRows used = rows(1);
        used.integral(0, 1);
        unknownDue("new", new DefiniteRows());
        fractionDue("another one's", used, 1, 1);
    }

    private static void oneCutMore() {
        Check.sentence("cut: One CUT more");
        DefiniteRows x = new DefiniteRows();
        for (int k = 0; k < 3; k++) {
            Check.due("before", x.cuts(), k);
            x.cut(PLACES[k]);
            Check.due("behind", x.cuts(), k + 1);
        }
    }

    /** A cut left of the two there are, between them, and right of them. */
    private static void twoThatAreTheSame() {
        Check.sentence("cut: the PIECE there becomes two that are the same");
        for (int at : new int[] {-6, -5, -3, 0, 3, 5, 6}) {
            DefiniteRows x = threeKinds();
            int split = at < -4 ? 0 : at < 4 ? 1 : 2;
            x.cut(at);
            for (int piece = 0; piece <= 3; piece++) {
                kindDue("cut(" + at + ")", x, piece, piece <= split ? piece : piece - 1);
            }
        }
    }

    private static void theTwoAreApart() {
        Check.sentence("cut: becomes two");
        for (int at : new int[] {-5, 0, 5}) {
            for (int side = 0; side <= 1; side++) {
                DefiniteRows x = threeKinds();
                int k = x.cut(at);
                for (int number = 0; number <= 7; number++) {
                    x.put(k + side, number, -5);
                }
                kindDue("the other one of cut(" + at + ")", x, k + 1 - side, k);
            }
        }
    }

    private static void whichCutItIs() {
        Check.sentence("cut: Which CUT it is.");
        for (int at = -6; at <= 6; at++) {
            if (at != -4 && at != 4) {
                DefiniteRows x = threeKinds();
                int k = x.cut(at);
                Check.due("cut(" + at + ")", k, at < -4 ? 0 : at < 4 ? 1 : 2);
                Check.due("cut(" + at + "), its place", x.place(k), at);
            }
        }
    }

    private static void cutThatCannotBe() {
        Check.sentence("cut: IllegalArgumentException: it can't be one");
        for (int at : beside(-6, 6)) {
            DefiniteRows x = threeKinds();
            Check.refused("cut(" + at + ")", ARGUMENT, () -> x.cut(at));
            placesDue("cut(" + at + ")", x, -4, 4);
            Check.due("one that can, behind it", Check.answerOf(() -> x.cut(6)), "2");
        }
        for (int end : new int[] {-9, 9}) {
            Check.refused("an END alone, " + end, ARGUMENT, () -> new DefiniteRows().cut(end));
        }
    }

    private static void cutThatIsOne() {
        Check.sentence("cut: IllegalArgumentException: or is one");
        DefiniteRows x = new DefiniteRows();
        for (int k = 0; k < 3; k++) {
            x.cut(PLACES[k]);
            for (int i = 0; i <= k; i++) {
                int place = PLACES[i];
                Check.refused("cut(" + place + ") with " + (k + 1), ARGUMENT, () -> x.cut(place));
            }
            Check.due("cuts()", x.cuts(), k + 1);
        }
        x.join(1);
        Check.due("one that was one", Check.answerOf(() -> x.cut(0)), "1");
    }

    private static void cutBesideThree() {
        Check.sentence("cut: IllegalStateException: there are 3.");
        DefiniteRows x = fourPieces();
        for (int at : new int[] {-6, -5, -3, -1, 1, 3, 5, 6}) {
            Check.refused("cut(" + at + ")", STATE, () -> x.cut(at));
        }
        placesDue("refused", x, PLACES);
        for (int piece = 0; piece <= 3; piece++) {
            Check.due("refused: piece " + piece, x.at(piece, 0), piece + 1);
        }
        x.join(0);
        Check.due("behind join", Check.answerOf(() -> x.cut(-6)), "0");
        x.clear();
        Check.due("behind clear", Check.answerOf(() -> x.cut(-6)), "0");
    }

    private static void joinCutGoes() {
        Check.sentence("join: CUT k goes");
        for (int k = 0; k < 3; k++) {
            DefiniteRows x = fourPieces();
            x.join(k);
            placesDue("join(" + k + ")", x, PLACES[k == 0 ? 1 : 0], PLACES[k == 2 ? 1 : 2]);
            Check.refused("join(" + k + "): place(2)", INDEX, () -> x.place(2));
        }
    }

    private static void joinReachesAsFar() {
        Check.sentence("join: and the PIECE to its right with it: the one to its left reaches as far.");
        int[][] due = {
            {1, 1, 1, 1, 1, 1, 3, 3, 3, 3, 4, 4, 4},
            {1, 1, 2, 2, 2, 2, 2, 2, 2, 2, 4, 4, 4},
            {1, 1, 2, 2, 2, 2, 3, 3, 3, 3, 3, 3, 3},
        };
        for (int k = 0; k < 3; k++) {
            DefiniteRows x = fourPieces();
            x.join(k);
            for (int at = -6; at <= 6; at++) {
                valueDue("join(" + k + ")", x, at, due[k][at + 6], 1);
            }
            for (int piece = 0; piece <= 2; piece++) {
                int was = piece <= k ? piece : piece + 1;
                numbersDue("join(" + k + ")", x, piece, was + 1, 0, 0, 0, 0, 0, 0, -was - 1);
            }
            Check.refused("join(" + k + "): at(3, 0)", INDEX, () -> x.at(3, 0));
        }
    }

    private static void joinLastCut() {
        Check.sentence("join: CUT k goes (till there is none)");
        DefiniteRows x = fourPieces();
        x.join(2);
        x.join(1);
        x.join(0);
        placesDue("none is left", x);
        numbersDue("none is left", x, 0, 1, 0, 0, 0, 0, 0, 0, -1);
        integralDue("none is left", x, -6, 6, 12, 1);
        x.cut(5);
        numbersDue("what has gone doesn't come again", x, 1, 1, 0, 0, 0, 0, 0, 0, -1);
    }

    private static void joinNoSuchCut() {
        Check.sentence("join: IndexOutOfBoundsException: no such CUT");
        DefiniteRows x = new DefiniteRows();
        for (int cuts = 0; cuts <= 3; cuts++) {
            for (int k : beside(0, cuts - 1)) {
                Check.refused("join(" + k + ") with " + cuts, INDEX, () -> done(() -> x.join(k)));
            }
            Check.due("cuts()", x.cuts(), cuts);
            if (cuts < 3) {
                x.cut(PLACES[cuts]);
            }
        }
    }

    private static void putWhetherAnother() {
        Check.sentence("put: A NUMBER of a PIECE: whether it is another one.");
        for (int number = 0; number <= 7; number++) {
            int most = number == 7 ? 6 : 5;
            for (int was = -most; was <= most; was++) {
                for (int v = -most; v <= most; v++) {
                    DefiniteRows x = new DefiniteRows();
                    x.put(0, number, was);
                    Check.due("put(0, " + number + ", " + v + ") over " + was, x.put(0, number, v), v != was);
                }
            }
        }
    }

    private static void putOneNumberAlone() {
        Check.sentence("put: A NUMBER of a PIECE");
        for (int piece = 0; piece <= 3; piece++) {
            for (int number = 0; number <= 7; number++) {
                DefiniteRows x = new DefiniteRows();
                for (int k = 0; k < 3; k++) {
                    x.cut(PLACES[k]);
                }
                x.put(piece, number, 5);
                for (int i = 0; i < 32; i++) {
                    int due = i / 8 == piece && i % 8 == number ? 5 : 0;
                    Check.due("put(" + piece + ", " + number + ", 5): at " + i, x.at(i / 8, i % 8), due);
                }
                placesDue("put(" + piece + ", " + number + ", 5)", x, PLACES);
            }
        }
    }

    private static void putNoSuchNumber() {
        Check.sentence("put: IllegalArgumentException: no such NUMBER, or it can't be that.");
        for (int number : beside(0, 7)) {
            DefiniteRows x = fourPieces();
            for (int piece = 0; piece <= 3; piece++) {
                int i = piece;
                Check.refused("put(" + i + ", " + number + ", 0)", ARGUMENT, () -> number(x.put(i, number, 0)));
                Check.refused("put(" + i + ", " + number + ", 9)", ARGUMENT, () -> number(x.put(i, number, 9)));
                numbersDue("refused", x, piece, piece + 1, 0, 0, 0, 0, 0, 0, -piece - 1);
            }
        }
        DefiniteRows x = rows(5, 5, 5, 5, 5, 5, 5, 6);
        for (int number = 0; number <= 7; number++) {
            int n = number;
            int most = n == 7 ? 6 : 5;
            for (int v : beside(-most, most)) {
                Check.refused("put(0, " + n + ", " + v + ")", ARGUMENT, () -> number(x.put(0, n, v)));
            }
            Check.due("behind it the same again", x.put(0, n, most), false);
            Check.due("behind it another one", x.put(0, n, -most), true);
        }
    }

    private static void putNoSuchPiece() {
        Check.sentence("put: IndexOutOfBoundsException: no such PIECE");
        DefiniteRows x = new DefiniteRows();
        for (int cuts = 0; cuts <= 3; cuts++) {
            for (int piece : beside(0, cuts)) {
                Check.refused("put(" + piece + ", 0, 1)", INDEX, () -> number(x.put(piece, 0, 1)));
            }
            for (int piece = 0; piece <= cuts; piece++) {
                Check.due("refused: at(" + piece + ", 0)", x.at(piece, 0), 0);
            }
            if (cuts < 3) {
                x.cut(PLACES[cuts]);
            }
        }
    }

    private static void atEachNumber() {
        Check.sentence("at: A NUMBER of a PIECE.");
        DefiniteRows x = fourPieces();
        for (int piece = 0; piece <= 3; piece++) {
            for (int number = 0; number <= 7; number++) {
                x.put(piece, number, (8 * piece + number) % 11 - 5);
            }
        }
        for (int piece = 0; piece <= 3; piece++) {
            for (int number = 0; number <= 7; number++) {
                Check.due("at(" + piece + ", " + number + ")", x.at(piece, number), (8 * piece + number) % 11 - 5);
            }
        }
    }

    private static void atNoSuchNumber() {
        Check.sentence("at: IllegalArgumentException: no such NUMBER.");
        DefiniteRows x = fourPieces();
        for (int number : beside(0, 7)) {
            Check.refused("at(0, " + number + ")", ARGUMENT, () -> x.at(0, number));
            Check.refused("at(3, " + number + ")", ARGUMENT, () -> x.at(3, number));
        }
    }

    private static void atNoSuchPiece() {
        Check.sentence("at: IndexOutOfBoundsException: no such PIECE");
        DefiniteRows x = new DefiniteRows();
        for (int cuts = 0; cuts <= 3; cuts++) {
            int last = cuts;
            Check.due("the last one", Check.answerOf(() -> x.at(last, 7)), "0");
            for (int piece : beside(0, cuts)) {
                Check.refused("at(" + piece + ", 0)", INDEX, () -> x.at(piece, 0));
            }
            if (cuts < 3) {
                x.cut(PLACES[cuts]);
            }
        }
    }

    private static void placeOfEachCut() {
        Check.sentence("place: The place of CUT k.");
        for (int at = -6; at <= 4; at++) {
            DefiniteRows x = new DefiniteRows();
            x.cut(at + 1);
            x.cut(at + 2);
            x.cut(at);
            placesDue("three side by side", x, at, at + 1, at + 2);
        }
    }

    private static void placeNoSuchCut() {
        Check.sentence("place: IndexOutOfBoundsException: no such CUT");
        DefiniteRows x = new DefiniteRows();
        for (int cuts = 0; cuts <= 3; cuts++) {
            for (int k : beside(0, cuts - 1)) {
                Check.refused("place(" + k + ") with " + cuts, INDEX, () -> x.place(k));
            }
            if (cuts < 3) {
                x.cut(PLACES[cuts]);
            }
        }
    }

    /** At 0 to 3 CUTS, -6, 0 and 6 among them. */
    private static void mirrorTurnsFunction() {
        Check.sentence("mirror: The FUNCTION becomes that which at x is what it was at -x");
        int[][] cuts = {{}, {-6}, {0}, {6}, {-2}, {-6, 6}, {1, 2}, {-6, -5}, {-6, 0, 6}, {-1, 0, 1}, {3, 4, 6}};
        for (int[] places : cuts) {
            DefiniteRows x = allKinds(places);
            DefiniteRows turned = allKinds(places);
            turned.mirror();
            Check.due("mirror: cuts()", turned.cuts(), places.length);
            for (int k = 0; k < places.length; k++) {
                Check.due("mirror: place(" + k + ")", turned.place(k), -places[places.length - 1 - k]);
            }
            for (int at = -6; at <= 6; at++) {
                int there = at;
                if (!isOneOf(places, -at)) {
                    Check.due("value(" + at + ", 0)", Check.answerOf(() -> turned.value(there, 0)),
                        Check.answerOf(() -> x.value(-there, 0)));
                    Check.due("value(" + at + ", 1)", Check.answerOf(() -> turned.value(there, 1)),
                        Check.answerOf(() -> x.value(-there, 1)));
                }
            }
        }
    }

    private static void mirrorNumbers() {
        Check.sentence("mirror: at x is what it was at -x (each NUMBER alone, at its least and most)");
        int[] signs = {1, -1, 1, -1, -1, 1, -1, -1};
        for (int number = 0; number <= 7; number++) {
            for (int v : new int[] {-5, 5}) {
                DefiniteRows x = new DefiniteRows();
                x.put(0, number, v);
                x.mirror();
                int[] due = new int[8];
                due[number] = signs[number] * v;
                numbersDue("number " + number, x, 0, due);
            }
        }
        for (int p = -6; p <= 6; p += 12) {
            DefiniteRows x = rows(0, 0, 0, 0, 1, 0, 0, p);
            x.mirror();
            Check.due("p", x.at(0, 7), -p);
            Check.due("p is what can be put", x.put(0, 7, -p), false);
        }
    }

    private static void mirrorCutsToTheRight() {
        Check.sentence("mirror: (but that each CUT is in the PIECE to its right again)");
        DefiniteRows x = fourPieces();
        x.mirror();
        placesDue("mirror", x, PLACES);
        int[] due = {4, 4, 3, 3, 3, 3, 2, 2, 2, 2, 1, 1, 1};
        for (int at = -6; at <= 6; at++) {
            valueDue("mirror", x, at, due[at + 6], 1);
        }
        DefiniteRows y = new DefiniteRows();
        y.cut(-6);
        y.put(0, 0, 1);
        y.mirror();
        valueDue("mirror, a cut at 6", y, 5, 0, 1);
        valueDue("mirror, a cut at 6", y, 6, 1, 1);
    }

    private static void mirrorTwice() {
        Check.sentence("mirror: becomes that which at x is what it was at -x (twice: as it was)");
        for (int[] places : new int[][] {{}, {-6}, {0, 6}, {-6, -2, 5}}) {
            DefiniteRows x = allKinds(places);
            x.mirror();
            x.mirror();
            Check.due("mirror twice", stateOf(x), stateOf(allKinds(places)));
        }
    }

    private static void valueAtEdges() {
        Check.sentence("value: The FUNCTION at a whole number, part 0 or 1.");
        valueDue("the leftmost", rows(0, 1), -6, -6, 1);
        valueDue("the rightmost", rows(0, 1), 6, 6, 1);
        valueDue("the leftmost, a pole", rows(0, 0, 0, 0, 1, 0, 0, -5), -6, -1, 1);
        valueDue("the rightmost, a pole", rows(0, 0, 0, 0, 0, 0, 1, -6), 6, 1, 1728);
    }

    private static void valueOtherPlaceOrPart() {
        Check.sentence("value: IllegalArgumentException: it isn't -6 .. 6, or another part.");
        DefiniteRows x = fourPieces();
        for (int at : beside(-6, 6)) {
            Check.refused("value(" + at + ", 0)", ARGUMENT, () -> x.value(at, 0));
            Check.refused("value(" + at + ", 1)", ARGUMENT, () -> x.value(at, 1));
            Check.refused("value(" + at + ", 2)", ARGUMENT, () -> x.value(at, 2));
        }
        for (int part : beside(0, 1)) {
            Check.refused("value(-6, " + part + ")", ARGUMENT, () -> x.value(-6, part));
            Check.refused("value(6, " + part + ")", ARGUMENT, () -> x.value(6, part));
        }
        valueDue("behind it", x, 6, 4, 1);
    }

    private static void valueAtPole() {
        Check.sentence("value: IllegalStateException: it is the p of its PIECE, some of a1, a2, a3 not being 0.");
        for (int p = -6; p <= 6; p++) {
            int at = p;
            for (int a = 4; a <= 6; a++) {
                for (int v : new int[] {-5, 1}) {
                    DefiniteRows x = rows(1, 0, 0, 0, 0, 0, 0, p);
                    x.put(0, a, v);
                    Check.refused("value(" + p + ", 0)", STATE, () -> x.value(at, 0));
                    Check.refused("value(" + p + ", 1)", STATE, () -> x.value(at, 1));
                    x.put(0, a, 0);
                    valueDue("behind it, a1, a2, a3 being 0", x, p, 1, 1);
                }
            }
        }
    }

    private static void valueAtPoleOfItsPiece() {
        Check.sentence("value: the p of its PIECE (not of another one)");
        for (int p = -6; p <= 6; p++) {
            int at = p;
            DefiniteRows x = rows(1, 0, 0, 0, 0, 0, 0, p);
            x.cut(p);
            x.put(0, 4, 1);
            valueDue("of the one to the left of the cut", x, p, 1, 1);
            x.put(0, 4, 0);
            x.put(1, 4, 1);
            Check.refused("of the one to the right of the cut", STATE, () -> x.value(at, 0));
            if (p > -6) {
                valueDue("beside the cut", x, p - 1, 1, 1);
            }
        }
    }

    private static void integralWhether() {
        Check.sentence("integral: whether it doesn't DIVERGE; then it is KNOWN");
        DefiniteRows x = rows(2, 0, 0, 0, 0, 1, 0, 3);
        Check.due("from -6 to 2", x.integral(-6, 2), true);
        fractionDue("from -6 to 2", x, 152, 9);
        logarithmsDue("from -6 to 2", x);
        Check.due("from 4 to 6", x.integral(4, 6), true);
        fractionDue("from 4 to 6", x, 14, 3);
    }

    private static void integralElseNone() {
        Check.sentence("integral: else none is");
        DefiniteRows x = rows(2, 0, 0, 0, 0, 1, 0, 3);
        divergesDue("a pole", x, -6, 6);
        divergesDue("a pole at the border", x, -6, 3);
        divergesDue("no end", x, 4, 9);
        Check.due("again", x.integral(4, 9), false);
        unknownDue("again", x);
    }

    private static void fractionParts() {
        Check.sentence("fraction: part 0 or 1. IllegalArgumentException: another part.");
        DefiniteRows x = rows(0, 1);
        x.integral(0, 1);
        fractionDue("x from 0 to 1", x, 1, 2);
        for (int part : beside(0, 1)) {
            Check.refused("fraction(" + part + ")", ARGUMENT, () -> x.fraction(part));
        }
        fractionDue("behind it", x, 1, 2);
    }

    private static void fractionNoneKnown() {
        Check.sentence("fraction: IllegalStateException: none is KNOWN.");
        DefiniteRows x = rows(1);
        for (int part : new int[] {0, 1, -1, 2, Integer.MIN_VALUE, Integer.MAX_VALUE}) {
            Check.refused("at first: fraction(" + part + ")", STATE, () -> x.fraction(part));
        }
        x.integral(0, 1);
        x.integral(0, 9);
        Check.refused("behind one that diverges", STATE, () -> x.fraction(0));
        x.integral(0, 1);
        fractionDue("behind one that doesn't", x, 1, 1);
        x.clear();
        Check.refused("behind clear", STATE, () -> x.fraction(0));
    }

    private static void logarithmOfEachPrime() {
        Check.sentence("logarithm: How often the logarithm of a number is in the KNOWN INTEGRAL.");
        int[] primes = {2, 3, 5, 7, 11};
        for (int i = 0; i < primes.length; i++) {
            int[] due = new int[5];
            due[i] = -5;
            integralDue("of " + primes[i], rows(0, 0, 0, 0, -5, 0, 0, -6), -5, primes[i] - 6, 0, 1, due);
            due[i] = 5;
            integralDue("of " + primes[i], rows(0, 0, 0, 0, -5, 0, 0, -6), primes[i] - 6, -5, 0, 1, due);
        }
        DefiniteRows x = rows(0, 0, 0, 0, 5, 0, 0, -6);
        x.cut(2);
        x.put(1, 7, 1);
        integralDue("of 2, from two pieces", x, -5, 5, 0, 1, 15 + 10);
    }

    private static void logarithmOfNoPrime() {
        Check.sentence("logarithm: IllegalArgumentException: it isn't 2, 3, 5, 7 or 11.");
        DefiniteRows x = rows(0, 0, 0, 0, 1, 0, 0, -6);
        x.integral(-5, 6);
        for (int n = -13; n <= 35; n++) {
            int number = n;
            if (n != 2 && n != 3 && n != 5 && n != 7 && n != 11) {
                Check.refused("logarithm(" + n + ")", ARGUMENT, () -> x.logarithm(number));
            }
        }
        Check.refused("the least int", ARGUMENT, () -> x.logarithm(Integer.MIN_VALUE));
        Check.refused("the greatest int", ARGUMENT, () -> x.logarithm(Integer.MAX_VALUE));
        logarithmsDue("behind it", x, 2, 1);
    }

    private static void logarithmNoneKnown() {
        Check.sentence("logarithm: IllegalStateException: likewise.");
        DefiniteRows x = rows(0, 0, 0, 0, 1, 0, 0, -6);
        for (int n : new int[] {2, 3, 5, 7, 11, 4, 0, -2, 13, Integer.MIN_VALUE, Integer.MAX_VALUE}) {
            Check.refused("at first: logarithm(" + n + ")", STATE, () -> x.logarithm(n));
        }
        x.integral(-5, 6);
        x.integral(-6, 6);
        Check.refused("behind one that diverges", STATE, () -> x.logarithm(2));
        x.integral(-5, -4);
        logarithmsDue("behind one that doesn't", x, 1);
        x.clear();
        Check.refused("behind clear", STATE, () -> x.logarithm(2));
    }

    private static void symmetryEvenStretches() {
        Check.sentence("symmetry: 1 if the FUNCTION at -x is the FUNCTION at x");
        for (int at = 1; at <= 6; at++) {
            DefiniteRows x = outside(at);
            x.put(0, 0, 3);
            x.put(2, 0, 3);
            Check.due("the same beyond " + at, x.symmetry(), 1);
            x.put(1, 2, -2);
            Check.due("and between", x.symmetry(), 1);
            x.put(0, 1, -1);
            Check.due("but for the left", x.symmetry(), 0);
            x.put(2, 1, 1);
            Check.due("and the right", x.symmetry(), 1);
            x.put(1, 1, 1);
            Check.due("but between", x.symmetry(), 0);
        }
    }

    private static void symmetryOddStretches() {
        Check.sentence("symmetry: -1 if it is less that");
        for (int at = 1; at <= 6; at++) {
            DefiniteRows x = outside(at);
            x.put(0, 0, -3);
            x.put(2, 0, 3);
            Check.due("less that beyond " + at, x.symmetry(), -1);
            x.put(1, 3, -2);
            Check.due("and between", x.symmetry(), -1);
            x.put(0, 1, 1);
            Check.due("but for the left", x.symmetry(), 0);
            x.put(2, 1, 1);
            Check.due("and the right", x.symmetry(), -1);
            x.put(1, 0, 1);
            Check.due("but between", x.symmetry(), 0);
        }
    }

    private static void symmetryBoth() {
        Check.sentence("symmetry: 2 if both (it is 0 there)");
        DefiniteRows x = new DefiniteRows();
        Check.due("no cut", x.symmetry(), 2);
        for (int k = 0; k < 3; k++) {
            x.cut(PLACES[k] + 1);
            Check.due((k + 1) + " cuts", x.symmetry(), 2);
        }
        for (int piece = 0; piece <= 3; piece++) {
            x.put(piece, 7, piece + 3);
            Check.due("p of piece " + piece + " alone", x.symmetry(), 2);
        }
    }

    /** One stretch of length 1 alone, or what is beyond 6, on one side: the least that may differ. */
    private static void symmetryNeither() {
        Check.sentence("symmetry: 0 if neither");
        for (int at = -6; at <= 5; at++) {
            for (int number = 0; number <= 6; number++) {
                DefiniteRows x = new DefiniteRows();
                x.cut(at);
                x.cut(at + 1);
                x.put(1, number, 1);
                Check.due("number " + number + " from " + at + " to " + (at + 1) + " alone", x.symmetry(), 0);
            }
        }
        for (int number = 0; number <= 6; number++) {
            DefiniteRows x = new DefiniteRows();
            x.cut(6);
            x.put(1, number, 1);
            Check.due("number " + number + " beyond 6 alone", x.symmetry(), 0);
            x.mirror();
            Check.due("number " + number + " beyond -6 alone", x.symmetry(), 0);
        }
    }

    private static void symmetryBesideCutsAndPoles() {
        Check.sentence("symmetry: for all x that are no CUT and no -x of one and at which it has no pole");
        DefiniteRows x = outside(2);
        x.put(0, 0, 1);
        x.put(2, 0, 1);
        Check.due("-2 and 2 are not the same, but cuts", x.symmetry(), 1);
        valueDue("-2", x, -2, 0, 1);
        valueDue("2", x, 2, 1, 1);
        DefiniteRows y = new DefiniteRows();
        y.cut(0);
        y.put(0, 0, -1);
        y.put(1, 0, 1);
        Check.due("0 is not less itself, but a cut", y.symmetry(), -1);
        Check.due("a pole at 0, odd", rows(0, 0, 0, 0, 1, 0, 1, 0).symmetry(), -1);
        Check.due("a pole at 0, even", rows(0, 0, 0, 0, 0, 1, 0, 0).symmetry(), 1);
        DefiniteRows z = outside(2);
        z.put(0, 4, -1);
        z.put(0, 7, -4);
        z.put(2, 4, 1);
        z.put(2, 7, 4);
        Check.due("poles at -4 and 4", z.symmetry(), 1);
        z.put(2, 7, 1);
        z.put(0, 7, -1);
        Check.due("p not in its piece", z.symmetry(), 1);
        z.put(0, 7, 1);
        Check.due("p not in its piece, and not less that", z.symmetry(), 0);
    }

    private static void howManyCuts() {
        Check.sentence("cuts: How many CUTS there are.");
        DefiniteRows x = new DefiniteRows();
        Check.due("none", x.cuts(), 0);
        for (int k = 0; k < 3; k++) {
            x.cut(6 - k);
            Check.due("behind cut", x.cuts(), k + 1);
        }
        Check.refused("a fourth", STATE, () -> x.cut(0));
        Check.due("behind a refused cut", x.cuts(), 3);
        x.mirror();
        Check.due("behind mirror", x.cuts(), 3);
        for (int k = 2; k >= 0; k--) {
            x.join(k);
            Check.due("behind join", x.cuts(), k);
        }
        Check.refused("join without cuts", INDEX, () -> done(() -> x.join(0)));
        Check.due("behind a refused join", x.cuts(), 0);
    }

    private static void clearEverything() {
        Check.sentence("clear: 0 everywhere, no CUT; no INTEGRAL is KNOWN.");
        DefiniteRows x = allKinds(-3, 1, 6);
        x.integral(2, 2);
        x.clear();
        Check.due("clear", stateOf(x), stateOf(new DefiniteRows()));
        placesDue("clear", x);
        numbersDue("clear", x, 0, 0, 0, 0, 0, 0, 0, 0, 0);
        unknownDue("clear", x);
    }

    private static void clearThenUse() {
        Check.sentence("clear: 0 everywhere (also in PIECES that come again)");
        DefiniteRows x = allKinds(-3, 1, 6);
        x.clear();
        for (int k = 2; k >= 0; k--) {
            Check.due("cut again", x.cut(PLACES[k]), 0);
        }
        for (int piece = 0; piece <= 3; piece++) {
            numbersDue("cut again", x, piece, 0, 0, 0, 0, 0, 0, 0, 0);
        }
        integralDue("cut again", x, -9, 9, 0, 1);
    }

    private static void clearWhatIsClear() {
        Check.sentence("clear: 0 everywhere, no CUT (where it is so already)");
        DefiniteRows x = new DefiniteRows();
        x.clear();
        Check.due("a new one", stateOf(x), stateOf(new DefiniteRows()));
        x.clear();
        Check.due("twice", stateOf(x), stateOf(new DefiniteRows()));
    }

    /** CUTS -4 and 4, and three PIECES with all NUMBERS apart. */
    private static DefiniteRows threeKinds() {
        return allKinds(-4, 4);
    }

    private static DefiniteRows allKinds(int... places) {
        DefiniteRows x = new DefiniteRows();
        for (int place : places) {
            x.cut(place);
        }
        for (int piece = 0; piece <= places.length; piece++) {
            for (int number = 0; number <= 7; number++) {
                x.put(piece, number, kind(piece, number));
            }
        }
        return x;
    }

    private static int kind(int piece, int number) {
        return (2 * piece + 4 * number + 1) % 9 - 4;
    }

    private static void kindDue(String what, DefiniteRows x, int piece, int was) {
        for (int number = 0; number <= 7; number++) {
            Check.due(what + ": at(" + piece + ", " + number + ")", x.at(piece, number), kind(was, number));
        }
    }

    /** CUTS -at and at. */
    private static DefiniteRows outside(int at) {
        DefiniteRows x = new DefiniteRows();
        x.cut(-at);
        x.cut(at);
        return x;
    }

    private static boolean isOneOf(int[] row, int v) {
        for (int one : row) {
            if (one == v) {
                return true;
            }
        }
        return false;
    }
}
