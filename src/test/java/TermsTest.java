/** The sentences of the section 'Terms', and of that before it, each at its edges. */
public final class TermsTest extends Dues {
    /** How often 2, 3, 5, 7 and 11 are in 1 .. 12. */
    private static final int[][] PRIMES_OF = {
        {}, {0, 0, 0, 0, 0}, {1, 0, 0, 0, 0}, {0, 1, 0, 0, 0}, {2, 0, 0, 0, 0}, {0, 0, 1, 0, 0}, {1, 1, 0, 0, 0},
        {0, 0, 0, 1, 0}, {3, 0, 0, 0, 0}, {0, 2, 0, 0, 0}, {1, 0, 1, 0, 0}, {0, 0, 0, 0, 1}, {2, 1, 0, 0, 0},
    };
    private static final int[] ALL_ENDS = {-9, -6, -5, -4, -3, -2, -1, 0, 1, 2, 3, 4, 5, 6, 9};

    public static void main(String[] args) {
        atMost512Calls();
        upToThreeCuts();
        placesOfCuts();
        cutsRise();
        piecesFromTheLeft();
        cutIsInThePieceToItsRight();
        powersAndPoles();
        boundsOfNumbers();
        atFirst();
        whichEndsThereAre();
        withoutEnd();
        leastAndGreatestEnd();
        oneThatIsNotLess();
        areaOfEachPower();
        fromTheGreaterToTheLess();
        whereThatOneIsGreater();
        poleInAPartOrItsBorder();
        poleInAPartWithoutEnd();
        poleInAPartBetweenCuts();
        numbersWithoutEnd();
        numbersWithoutEndInPieces();
        ifAPartDoes();
        theOtherWayRound();
        staysKnown();
        staysKnownTill();
        fractionAndLogarithms();
        logarithmsOfPrimes();
        lowestTerms();
        Check.end("TermsTest");
    }

    private static void atMost512Calls() {
        Check.sentence("An object is used for at most 512 calls after it has been made");
        DefiniteRows x = new DefiniteRows();
        for (int i = 0; i < 128; i++) {
            int v = i % 11 - 5;
            Check.due("call " + (4 * i + 1) + ", put", x.put(0, 0, v), true);
            Check.due("call " + (4 * i + 2) + ", at", x.at(0, 0), v);
            Check.due("call " + (4 * i + 3) + ", integral", x.integral(0, 1), true);
            Check.due("call " + (4 * i + 4) + ", fraction", x.fraction(0), v);
        }
    }

    private static void upToThreeCuts() {
        Check.sentence("A FUNCTION is cut at up to 3 CUTS");
        DefiniteRows x = new DefiniteRows();
        placesDue("no cut", x);
        x.cut(2);
        placesDue("1 cut", x, 2);
        x.cut(-3);
        placesDue("2 cuts", x, -3, 2);
        x.cut(5);
        placesDue("3 cuts", x, -3, 2, 5);
        for (int at = -6; at <= 6; at++) {
            int place = at;
            if (at != -3 && at != 2 && at != 5) {
                Check.refused("a fourth at " + at, STATE, () -> x.cut(place));
            }
        }
        placesDue("still 3 cuts", x, -3, 2, 5);
        x.join(2);
        Check.due("a third again", Check.answerOf(() -> x.cut(6)), "2");
        Check.refused("a fourth again", STATE, () -> x.cut(5));
    }

    private static void placesOfCuts() {
        Check.sentence("whole numbers -6 .. 6");
        for (int at = -6; at <= 6; at++) {
            DefiniteRows x = new DefiniteRows();
            int place = at;
            Check.due("cut(" + at + ")", Check.answerOf(() -> x.cut(place)), "0");
            placesDue("cut(" + at + ")", x, at);
        }
        DefiniteRows x = new DefiniteRows();
        for (int cuts = 0; cuts <= 3; cuts++) {
            for (int at : beside(-6, 6)) {
                Check.refused("with " + cuts + " cuts, cut(" + at + ")", ARGUMENT, () -> x.cut(at));
            }
            Check.due("cuts()", x.cuts(), cuts);
            if (cuts < 3) {
                x.cut(6 * cuts - 6);
            }
        }
    }

    private static void cutsRise() {
        Check.sentence("whole numbers that rise");
        for (int a = -6; a <= 6; a++) {
            for (int b = -6; b <= 6; b++) {
                for (int c = -6; c <= 6; c++) {
                    if (a != b && a != c && b != c) {
                        threeCutsRise(a, b, c);
                    }
                }
            }
        }
    }

    private static void threeCutsRise(int a, int b, int c) {
        String what = "cuts " + a + ", " + b + ", " + c;
        DefiniteRows x = new DefiniteRows();
        Check.due(what + ": the first", x.cut(a), 0);
        Check.due(what + ": the second", x.cut(b), a < b ? 1 : 0);
        Check.due(what + ": the third", x.cut(c), (a < c ? 1 : 0) + (b < c ? 1 : 0));
        int least = Math.min(a, Math.min(b, c));
        int most = Math.max(a, Math.max(b, c));
        placesDue(what, x, least, a + b + c - least - most, most);
    }

    private static void piecesFromTheLeft() {
        Check.sentence("into PIECES, 0, 1 .. from the left, one more than CUTS");
        for (int cuts = 0; cuts <= 3; cuts++) {
            DefiniteRows x = new DefiniteRows();
            for (int k = 0; k < cuts; k++) {
                x.cut(2 * k - 2);
            }
            for (int piece = 0; piece <= cuts; piece++) {
                int i = piece;
                Check.due(cuts + " cuts: put " + i, Check.answerOf(() -> number(x.put(i, 0, i + 1))), "1");
                Check.due(cuts + " cuts: at " + i, Check.answerOf(() -> x.at(i, 0)), Integer.toString(i + 1));
                valueDue(cuts + " cuts: piece " + i + " from the left", x, 2 * i - 3, i + 1, 1);
            }
            for (int piece : beside(0, cuts)) {
                Check.refused(cuts + " cuts: put " + piece, INDEX, () -> number(x.put(piece, 0, 1)));
                Check.refused(cuts + " cuts: at " + piece, INDEX, () -> x.at(piece, 0));
            }
        }
    }

    private static void cutIsInThePieceToItsRight() {
        Check.sentence("a CUT itself is in the PIECE to its right");
        for (int at = -6; at <= 6; at++) {
            DefiniteRows x = new DefiniteRows();
            x.cut(at);
            x.put(1, 0, 1);
            for (int place = -6; place <= 6; place++) {
                valueDue("cut(" + at + ")", x, place, place < at ? 0 : 1, 1);
            }
        }
        DefiniteRows x = new DefiniteRows();
        for (int i = 0; i < 3; i++) {
            x.cut(i);
            x.put(i + 1, 0, i + 1);
        }
        int[] due = {0, 0, 0, 0, 0, 0, 1, 2, 3, 3, 3, 3, 3};
        for (int place = -6; place <= 6; place++) {
            valueDue("cuts side by side", x, place, due[place + 6], 1);
        }
    }

    private static void powersAndPoles() {
        Check.sentence("In a PIECE it is c0 + c1 x + c2 x x + c3 x x x + a1 / (x - p) + a2 / (x - p) (x - p) "
            + "+ a3 / (x - p) (x - p) (x - p)");
        for (int place = -6; place <= 6; place++) {
            for (int number = 0; number <= 3; number++) {
                oneTermAt(number, place, 5, power(place, number), 1);
                oneTermAt(number, place, -5, power(place, number), 1);
            }
            for (int p = -6; p <= 6; p++) {
                for (int a = 1; a <= 3 && p != place; a++) {
                    onePoleAt(a, p, place);
                }
            }
        }
        valueDue("the greatest", rows(5, 5, 5, 5, 5, 5, 5, 5), 6, 5 * 259 + 15, 1);
        valueDue("the least", rows(-5, -5, -5, -5, -5, -5, -5, 5), 6, -5 * 259 - 15, 1);
        valueDue("at the left end", rows(5, 5, 5, 5, 5, 5, 5, -5), -6, -5 * 185 - 5, 1);
        valueDue("far from the pole", rows(5, 5, 5, 5, 5, 5, 5, -6), 6, 5 * 259 * 1728 + 5 * 157, 1728);
        valueDue("far from the pole", rows(5, 5, 5, 5, 5, 5, 5, 6), -6, -5 * 185 * 1728 - 5 * 133, 1728);
    }

    private static void oneTermAt(int number, int place, int factor, long above, long below) {
        DefiniteRows x = new DefiniteRows();
        x.put(0, number, factor);
        valueDue("number " + number + " is " + factor, x, place, factor * above, below);
    }

    /** A factor of 5 falls away against a distance of 5 or 10, and no other. */
    private static void onePoleAt(int a, int p, int place) {
        DefiniteRows x = rows(0, 0, 0, 0, 0, 0, 0, p);
        x.put(0, 3 + a, 5);
        long below = power(place - p, a);
        long shared = below % 5 == 0 ? 5 : 1;
        long above = below < 0 ? -5 : 5;
        valueDue("a" + a + " is 5, p is " + p, x, place, above / shared, Math.abs(below) / shared);
    }

    private static void boundsOfNumbers() {
        Check.sentence("NUMBERS 0 .. 3 are c0 .. c3, 4 .. 6 a1 .. a3, each -5 .. 5, 7 is p, -6 .. 6");
        for (int piece = 0; piece <= 3; piece++) {
            for (int number = 0; number <= 7; number++) {
                boundsOfNumber(piece, number, number == 7 ? 6 : 5);
            }
        }
    }

    private static void boundsOfNumber(int piece, int number, int most) {
        DefiniteRows x = new DefiniteRows();
        for (int at = -1; at <= 1; at++) {
            x.cut(at);
        }
        String what = "put(" + piece + ", " + number + ", ";
        for (int v = -most; v <= most; v++) {
            int w = v;
            Check.due(what + v + ")", Check.answerOf(() -> number(x.put(piece, number, w))), "1");
            Check.due(what + v + "), then at", x.at(piece, number), v);
            if (v == -1) {
                x.put(piece, number, 1);
            }
        }
        for (int v : beside(-most, most)) {
            Check.refused(what + v + ")", ARGUMENT, () -> number(x.put(piece, number, v)));
            Check.due(what + v + "), then at", x.at(piece, number), most);
        }
    }

    private static void atFirst() {
        Check.sentence("At first there is no CUT, all NUMBERS are 0.");
        DefiniteRows x = new DefiniteRows();
        placesDue("at first", x);
        Check.refused("at first: place(0)", INDEX, () -> x.place(0));
        numbersDue("at first", x, 0, 0, 0, 0, 0, 0, 0, 0, 0);
    }

    private static void whichEndsThereAre() {
        Check.sentence("ENDS are whole numbers -6 .. 6; -9 stands for no end to the left, 9 for none to the right");
        for (int from : ALL_ENDS) {
            DefiniteRows x = new DefiniteRows();
            for (int to : ALL_ENDS) {
                String call = "integral(" + from + ", " + to + ")";
                Check.due(call, Check.answerOf(() -> number(x.integral(from, to))), "1");
            }
            for (int no : new int[] {Integer.MIN_VALUE, -10, -8, -7, 7, 8, 10, Integer.MAX_VALUE}) {
                Check.refused("integral(" + from + ", " + no + ")", ARGUMENT, () -> number(x.integral(from, no)));
                Check.refused("integral(" + no + ", " + from + ")", ARGUMENT, () -> number(x.integral(no, from)));
                Check.refused("integral(" + no + ", " + no + ")", ARGUMENT, () -> number(x.integral(no, no)));
            }
        }
    }

    private static void withoutEnd() {
        Check.sentence("-9 stands for no end to the left, 9 for none to the right");
        for (int d = 1; d <= 12; d++) {
            integralDue("a2, " + d + " from p", rows(0, 0, 0, 0, 0, 1, 0, -6), d - 6, 9, 1, d);
            integralDue("a2, " + d + " from p", rows(0, 0, 0, 0, 0, 1, 0, 6), -9, 6 - d, 1, d);
            integralDue("a3, " + d + " from p", rows(0, 0, 0, 0, 0, 0, 1, -6), d - 6, 9, 1, 2 * d * d);
            integralDue("a3, " + d + " from p", rows(0, 0, 0, 0, 0, 0, 1, 6), -9, 6 - d, -1, 2 * d * d);
        }
    }

    private static void leastAndGreatestEnd() {
        Check.sentence("(of all ENDS the least, the greatest)");
        for (int end = 1; end <= 6; end++) {
            integralDue("from the greatest", rows(0, 0, 0, 0, 0, 1, 0, 0), 9, end, -1, end);
            integralDue("to the greatest", rows(0, 0, 0, 0, 0, 1, 0, 0), end, 9, 1, end);
            integralDue("from the least", rows(0, 0, 0, 0, 0, 1, 0, 0), -9, -end, 1, end);
            integralDue("to the least", rows(0, 0, 0, 0, 0, 1, 0, 0), -end, -9, -1, end);
        }
        DefiniteRows x = new DefiniteRows();
        x.cut(-6);
        x.cut(6);
        x.put(0, 5, 1);
        x.put(1, 0, 1);
        x.put(2, 5, 1);
        integralDue("from the least to the greatest", x, -9, 9, 37, 3);
        integralDue("from the greatest to the least", x, 9, -9, -37, 3);
    }

    private static void oneThatIsNotLess() {
        Check.sentence("The INTEGRAL from one END to another one that isn't less");
        for (int end : ALL_ENDS) {
            int p = Math.abs(end) == 9 ? 0 : end;
            integralDue("to itself", rows(5, 5, 5, 5, 5, 5, 5, p), end, end, 0, 1);
            DefiniteRows x = rows(5, 5, 5, 5, 5, 5, 5, p);
            x.cut(p);
            integralDue("to itself, a cut", x, end, end, 0, 1);
        }
    }

    private static void areaOfEachPower() {
        Check.sentence("the sum, over all PIECES, of the area");
        for (int from = -6; from <= 6; from++) {
            for (int to = from; to <= 6; to++) {
                areaOfOnePower(from, to, 0, 1);
                areaOfOnePower(from, to, 1, 2);
                areaOfOnePower(from, to, 2, 3);
                areaOfOnePower(from, to, 3, 4);
            }
        }
        integralDue("each another", rows(1, 2, 3, 4, 0, 0, 0, 0), -6, 6, 12 + 432, 1);
        integralDue("each another", rows(1, 2, 3, 4, 0, 0, 0, 0), 0, 6, 6 + 36 + 216 + 1296, 1);
        integralDue("each another", rows(4, -3, 2, -1, 0, 0, 0, 0), 0, 1, 48 - 18 + 8 - 3, 12);
    }

    /** A NUMBER that is what the power's area has below makes it whole. */
    private static void areaOfOnePower(int from, int to, int number, int below) {
        DefiniteRows x = new DefiniteRows();
        x.put(0, number, below);
        long area = power(to, below) - power(from, below);
        integralDue("number " + number + " is " + below, x, from, to, area, 1);
        x.put(0, number, -below);
        integralDue("number " + number + " is " + -below, x, from, to, -area, 1);
    }

    private static void fromTheGreaterToTheLess() {
        Check.sentence("of the area from the greater one of the left END and the PIECE's left border up to the less "
            + "one of the right END and its right border");
        int[] heights = {1, 1, 1, 1, 2, 2, 2, 3, 3, 3, 5, 5};
        for (int from = -6; from <= 6; from++) {
            long area = 0;
            for (int to = from; to <= 6; to++) {
                DefiniteRows x = new DefiniteRows();
                x.cut(-2);
                x.cut(1);
                x.cut(4);
                for (int piece = 0; piece <= 3; piece++) {
                    x.put(piece, 0, piece < 3 ? piece + 1 : 5);
                }
                integralDue("steps", x, from, to, area, 1);
                area += to < 6 ? heights[to + 6] : 0;
            }
        }
    }

    private static void whereThatOneIsGreater() {
        Check.sentence("where that one is greater");
        for (int at = -5; at <= 5; at++) {
            for (int a = 4; a <= 6; a++) {
                DefiniteRows x = rows(1, 0, 0, 0, 0, 0, 0, at);
                x.cut(at);
                x.put(1, a, 1);
                integralDue("up to a cut and no part of what begins there", x, -6, at, at + 6, 1);
                divergesDue("a part of what begins there", x, -6, at + 1);
                x.mirror();
                integralDue("from a cut and no part of what ends there", x, -at, 6, at + 6, 1);
                divergesDue("a part of what ends there", x, -at - 1, 6);
            }
        }
        DefiniteRows x = new DefiniteRows();
        x.cut(-6);
        x.cut(6);
        x.put(0, 0, 1);
        x.put(2, 0, 1);
        integralDue("no part of what has no end", x, -6, 6, 0, 1);
        divergesDue("a part of what has no end to the left", x, -9, -6);
        divergesDue("a part of what has no end to the right", x, 6, 9);
    }

    private static void poleInAPartOrItsBorder() {
        Check.sentence("DIVERGES if some of a1, a2, a3 isn't 0 and p is in it, or its border");
        for (int p = -6; p <= 6; p++) {
            for (int a = 4; a <= 6; a++) {
                for (int v : new int[] {-5, -1, 1, 5}) {
                    poleInAPart(a, v, p);
                }
            }
            DefiniteRows x = rows(1, 0, 0, 0, 0, 0, 0, p);
            integralDue("a1, a2, a3 are 0", x, -6, 6, 12, 1);
            integralDue("a1, a2, a3 are 0", x, p, 6, 6 - p, 1);
            integralDue("a1, a2, a3 are 0", x, -6, p, p + 6, 1);
        }
    }

    private static void poleInAPart(int a, int v, int p) {
        DefiniteRows x = rows(0, 0, 0, 0, 0, 0, 0, p);
        x.put(0, a, v);
        for (int from = -6; from < 6; from++) {
            for (int to = from + 1; to <= 6; to++) {
                String what = "number " + a + " is " + v + ", p is " + p + ": integral(" + from + ", " + to + ")";
                Check.due(what, x.integral(from, to), p < from || p > to);
            }
        }
    }

    private static void poleInAPartWithoutEnd() {
        Check.sentence("p is in it, or its border; it has no end on one side");
        for (int p = -6; p <= 6; p++) {
            for (int a = 5; a <= 6; a++) {
                DefiniteRows x = rows(0, 0, 0, 0, 0, 0, 0, p);
                x.put(0, a, 1);
                String what = "number " + a + ", p is " + p + ", end ";
                for (int end = -6; end <= 6; end++) {
                    Check.due(what + end + ", 9", x.integral(end, 9), p < end);
                    Check.due(what + "-9, " + end, x.integral(-9, end), p > end);
                    Check.due(what + "9, " + end, x.integral(9, end), p < end);
                    Check.due(what + end + ", -9", x.integral(end, -9), p > end);
                }
                Check.due(what + "-9, 9", x.integral(-9, 9), false);
            }
        }
    }

    private static void poleInAPartBetweenCuts() {
        Check.sentence("Such a part DIVERGES if p is in it, or its border (the part, not the PIECE or the ENDS)");
        for (int p = -6; p <= 6; p++) {
            for (int a = 4; a <= 6; a++) {
                DefiniteRows x = rows(0, 0, 0, 0, 0, 0, 0, p);
                x.cut(-3);
                x.cut(3);
                x.put(1, a, 1);
                String what = "number " + a + " from -3 to 3, p is " + p;
                Check.due(what + ", all of it", x.integral(-6, 6), p < -3 || p > 3);
                Check.due(what + ", to the cuts", x.integral(-3, 3), p < -3 || p > 3);
                Check.due(what + ", the left half", x.integral(-6, 0), p < -3 || p > 0);
                Check.due(what + ", the right half", x.integral(0, 6), p < 0 || p > 3);
                Check.due(what + ", the middle", x.integral(-1, 1), p < -1 || p > 1);
                Check.due(what + ", left of it", x.integral(-6, -3), true);
                Check.due(what + ", right of it", x.integral(3, 6), true);
                Check.due(what + ", no end on both sides", x.integral(-9, 9), p < -3 || p > 3);
            }
        }
    }

    private static void numbersWithoutEnd() {
        Check.sentence("or if it has no end on one side and some of c0 .. c3 or a1 isn't 0");
        for (int number = 0; number <= 7; number++) {
            for (int v : new int[] {-5, -1, 1, 5}) {
                DefiniteRows x = new DefiniteRows();
                x.put(0, number, v);
                boolean due = number >= 5;
                String what = "number " + number + " is " + v + ": ";
                Check.due(what + "to the right", x.integral(6, 9), due);
                Check.due(what + "from the right", x.integral(9, 6), due);
                Check.due(what + "to the left", x.integral(-6, -9), due);
                Check.due(what + "from the left", x.integral(-9, -6), due);
                Check.due(what + "both sides", x.integral(-9, 9), number == 7);
                Check.due(what + "with ends", x.integral(1, 4), true);
            }
        }
    }

    private static void numbersWithoutEndInPieces() {
        Check.sentence("it has no end on one side and some of c0 .. c3 or a1 isn't 0 (of this PIECE)");
        for (int number = 0; number <= 4; number++) {
            for (int piece = 0; piece <= 2; piece++) {
                DefiniteRows x = new DefiniteRows();
                x.cut(2);
                x.cut(5);
                x.put(piece, number, 1);
                String what = "number " + number + " of piece " + piece + ": ";
                Check.due(what + "to the right", x.integral(1, 9), piece != 2);
                Check.due(what + "from the left", x.integral(-9, -1), piece != 0);
                Check.due(what + "with ends", x.integral(1, 6), true);
            }
        }
    }

    private static void ifAPartDoes() {
        Check.sentence("The INTEGRAL DIVERGES if a part does.");
        for (int piece = 0; piece <= 3; piece++) {
            DefiniteRows x = fourPieces();
            int p = 4 * piece - 6;
            x.put(piece, 5, 1);
            x.put(piece, 7, p);
            divergesDue("the part of piece " + piece, x, -6, 6);
            divergesDue("the part of piece " + piece + ", from the right", x, 6, -6);
            for (int other = 0; other <= 3; other++) {
                int left = 4 * other - 6;
                Check.due("piece " + piece + ", part " + other, x.integral(left, Math.min(6, left + 1)),
                    other != piece || left == 6);
            }
        }
    }

    private static void theOtherWayRound() {
        Check.sentence("If the first END is greater it is the other way round less that from the second one to the "
            + "first.");
        for (int from = -6; from <= 6; from++) {
            for (int to = -6; to < from; to++) {
                DefiniteRows x = mixed();
                DefiniteRows y = mixed();
                String what = "integral(" + from + ", " + to + ")";
                boolean due = y.integral(to, from);
                Check.due(what, x.integral(from, to), due);
                if (!due) {
                    unknownDue(what, x);
                    continue;
                }
                fractionDue(what, x, -y.fraction(0), y.fraction(1));
                logarithmsDue(what, x, -y.logarithm(2), -y.logarithm(3), -y.logarithm(5), -y.logarithm(7),
                    -y.logarithm(11));
            }
        }
    }

    /** A pole at -3 in the first PIECE, none in the others that they reach. */
    private static DefiniteRows mixed() {
        DefiniteRows x = rows(1, 2, 0, 1, 1, 1, 0, -3);
        x.cut(-1);
        x.put(1, 7, -5);
        x.cut(3);
        x.put(2, 4, -2);
        x.put(2, 7, 1);
        return x;
    }

    private static void staysKnown() {
        Check.sentence("(An INTEGRAL stays KNOWN as it was told, whatever becomes of the FUNCTION");
        DefiniteRows x = mixed();
        x.integral(0, 4);
        long above = x.fraction(0);
        long below = x.fraction(1);
        int[] often = {x.logarithm(2), x.logarithm(3), x.logarithm(5), x.logarithm(7), x.logarithm(11)};
        Check.due("it has a logarithm", often[1] != 0, true);
        Runnable[] calls = {
            () -> x.put(1, 0, 5), () -> x.put(1, 4, 3), () -> x.put(1, 7, 2), () -> x.cut(0), () -> x.mirror(),
            () -> x.join(1), () -> x.join(0), () -> x.join(0), () -> x.cut(2), () -> x.put(0, 3, 0),
            () -> x.symmetry(), () -> x.value(6, 0), () -> x.at(0, 0), () -> x.place(0), () -> x.cuts(),
        };
        for (int i = 0; i < calls.length; i++) {
            calls[i].run();
            fractionDue("behind change " + i, x, above, below);
            logarithmsDue("behind change " + i, x, often);
        }
    }

    private static void staysKnownTill() {
        Check.sentence("till integral() or clear().)");
        DefiniteRows x = rows(3, 0, 0, 0, 1, 0, 0, -6);
        integralDue("the first", x, -5, -4, 3, 1, 1);
        integralDue("the next one", x, -5, -3, 6, 1, 0, 1);
        Check.due("one that diverges", x.integral(-6, -3), false);
        unknownDue("behind one that diverges", x);
        integralDue("one behind it", x, -5, -5, 0, 1);
        x.clear();
        unknownDue("behind clear", x);
        integralDue("one behind clear", x, -5, -3, 0, 1);
    }

    private static void fractionAndLogarithms() {
        Check.sentence("One that doesn't DIVERGE is in one way alone a FRACTION and a sum of whole multiples of the "
            + "logarithms of 2, 3, 5, 7 and 11");
        integralDue("a fraction alone", rows(1, 1, 1, 1, 0, 0, 0, 0), 0, 1, 25, 12);
        integralDue("logarithms alone", rows(0, 0, 0, 0, 5, 0, 0, -6), -5, 6, 0, 1, 10, 5);
        integralDue("both", rows(1, 0, 0, 0, -5, 0, 0, 6), -5, 5, 10, 1, 0, 0, 0, 0, 5);
        integralDue("the fractions of a2 and a3 too", rows(0, 0, 0, 0, 0, 5, 5, -6), -5, 5, 850, 121);
        integralDue("all numbers 1", farPoles(1), -6, 6, 120034202591L, 768398400, 8, -1, 0, -1, -1);
        integralDue("all numbers 5", farPoles(5), -6, 6, 120034202591L, 153679680, 40, -5, 0, -5, -5);
        integralDue("all numbers -5", farPoles(-5), -6, 6, -120034202591L, 153679680, -40, 5, 0, 5, 5);
        integralDue("all numbers 5, from the right", farPoles(5), 6, -6, -120034202591L, 153679680, -40, 5, 0, 5, 5);
    }

    /** CUTS -3, 0 and 3; all numbers are v; from p the PIECES reach 11 .. 8, 9 .. 6, 5 .. 8 and 7 .. 10 far. */
    private static DefiniteRows farPoles(int v) {
        DefiniteRows x = rows(v, v, v, v, v, v, v, 5);
        x.cut(-3);
        x.cut(0);
        x.cut(3);
        x.put(1, 7, 6);
        x.put(2, 7, -5);
        x.put(3, 7, -4);
        return x;
    }

    private static void logarithmsOfPrimes() {
        Check.sentence("(of n it is the sum of those of its primes)");
        for (int near = 1; near <= 12; near++) {
            for (int far = 1; far <= 12; far++) {
                int[] due = new int[5];
                for (int i = 0; i < 5; i++) {
                    due[i] = 5 * (PRIMES_OF[far][i] - PRIMES_OF[near][i]);
                }
                String what = far + " / " + near;
                integralDue(what, rows(0, 0, 0, 0, 5, 0, 0, -6), near - 6, far - 6, 0, 1, due);
                integralDue(what, rows(0, 0, 0, 0, 5, 0, 0, 6), 6 - near, 6 - far, 0, 1, due);
            }
        }
    }

    private static void lowestTerms() {
        Check.sentence("FRACTIONS are told in lowest terms, above (0), below (1), below above 0.");
        valueDue("0", rows(0, 0, 0, 0, 0, 0, 0, 0), 3, 0, 1);
        valueDue("0 over a pole", rows(-1, 0, 0, 0, 5, 0, 0, 0), 5, 0, 1);
        valueDue("4 / 6", rows(0, 0, 0, 0, 4, 0, 0, 0), 6, 2, 3);
        valueDue("4 / -6", rows(0, 0, 0, 0, 4, 0, 0, 0), -6, -2, 3);
        valueDue("-4 / -6", rows(0, 0, 0, 0, -4, 0, 0, 0), -6, 2, 3);
        valueDue("5 / -1000", rows(0, 0, 0, 0, 0, 0, 5, 6), -4, -1, 200);
        valueDue("-4 / 144", rows(0, 0, 0, 0, 0, -4, 0, 6), -6, -1, 36);
        valueDue("a whole number over a pole", rows(0, 0, 0, 0, 5, 0, 0, 6), 5, -5, 1);
        integralDue("0", rows(0, 1, 0, 1, 0, 0, 0, 0), -6, 6, 0, 1);
        integralDue("0 the other way round", rows(0, 1, 0, 1, 0, 0, 0, 0), 6, -6, 0, 1);
        integralDue("a whole number", rows(0, 2, 0, 0, 0, 0, 0, 0), 0, 6, 36, 1);
        integralDue("less than 0", rows(0, 1, 0, 0, 0, 0, 0, 0), -1, 0, -1, 2);
        integralDue("less than 0 the other way round", rows(0, 1, 0, 0, 0, 0, 0, 0), 1, 0, -1, 2);
        integralDue("4 / 6", rows(0, 0, 0, 0, 0, 4, 0, 0), 6, 9, 2, 3);
        integralDue("the longest below of one pole", rows(0, 0, 0, 0, 0, 0, 1, -6), 5, 6, 23, 34848);
        integralDue("the greatest of all", rows(5, 5, 5, 5, 0, 0, 0, 0), 0, 6, 2100, 1);
        integralDue("the least of all", rows(5, 5, 5, 5, 0, 0, 0, 0), 6, 0, -2100, 1);
    }
}
