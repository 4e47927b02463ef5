import java.util.ArrayList;
import java.util.List;

/** Which exception a call throws, which goes before which, and that a refused call changes nothing. */
public final class RefusalsTest extends Dues {
    private static final int STATES = 6;
    /** Where value() meets a pole in each of the states that made() makes. */
    private static final int[][] POLES = {{}, {4}, {-3}, {-3, 3, 6}, {-3, 3, 6}, {-3, 6}};

    private interface Use {
        long of(DefiniteRows x);
    }

    private record Refused(String call, Class<? extends RuntimeException> due, Use use) {
    }

    public static void main(String[] args) {
        argumentBeforeStateInCut();
        indexBeforeArgumentInPut();
        indexBeforeArgumentInAt();
        argumentBeforeStateInValue();
        stateBeforeArgumentInFraction();
        stateBeforeArgumentInLogarithm();
        nothingChanges();
        nothingChangesByReading();
        severalRefusedInARow();
        Check.end("RefusalsTest");
    }

    private static void argumentBeforeStateInCut() {
        Check.sentence("Of several the one that stands first behind \"throws\" is thrown (cut)");
        DefiniteRows x = fourPieces();
        Check.refused("there are 3, and it is free", STATE, () -> x.cut(1));
        for (int at : new int[] {-4, 0, 4}) {
            Check.refused("there are 3, and it is one", ARGUMENT, () -> x.cut(at));
        }
        for (int at : beside(-6, 6)) {
            Check.refused("there are 3, and it can't be one", ARGUMENT, () -> x.cut(at));
        }
    }

    private static void indexBeforeArgumentInPut() {
        Check.sentence("Of several the one that stands first behind \"throws\" is thrown (put)");
        DefiniteRows x = fourPieces();
        for (int piece : new int[] {-1, 4}) {
            Check.refused("no such piece", INDEX, () -> number(x.put(piece, 0, 0)));
            Check.refused("no such piece, number", INDEX, () -> number(x.put(piece, 8, 0)));
            Check.refused("no such piece, it can't be that", INDEX, () -> number(x.put(piece, 0, 6)));
            Check.refused("no such piece, number, it can't be that", INDEX, () -> number(x.put(piece, -1, 7)));
        }
        Check.refused("no such number, it can't be that", ARGUMENT, () -> number(x.put(3, -1, 7)));
    }

    private static void indexBeforeArgumentInAt() {
        Check.sentence("Of several the one that stands first behind \"throws\" is thrown (at)");
        DefiniteRows x = fourPieces();
        for (int piece : new int[] {-1, 4}) {
            Check.refused("no such piece, number", INDEX, () -> x.at(piece, 8));
            Check.refused("no such piece, number", INDEX, () -> x.at(piece, -1));
        }
        Check.refused("no such number", ARGUMENT, () -> x.at(3, 8));
    }

    private static void argumentBeforeStateInValue() {
        Check.sentence("Of several the one that stands first behind \"throws\" is thrown (value)");
        for (int p = -6; p <= 6; p++) {
            int at = p;
            DefiniteRows x = rows(0, 0, 0, 0, 1, 0, 0, p);
            Check.refused("a pole", STATE, () -> x.value(at, 0));
            for (int part : beside(0, 1)) {
                Check.refused("a pole, and another part", ARGUMENT, () -> x.value(at, part));
            }
        }
    }

    private static void stateBeforeArgumentInFraction() {
        Check.sentence("Of several the one that stands first behind \"throws\" is thrown (fraction)");
        DefiniteRows x = new DefiniteRows();
        for (int part : beside(0, 1)) {
            Check.refused("none is known, and another part", STATE, () -> x.fraction(part));
        }
        x.integral(0, 1);
        Check.refused("another part", ARGUMENT, () -> x.fraction(2));
    }

    private static void stateBeforeArgumentInLogarithm() {
        Check.sentence("Of several the one that stands first behind \"throws\" is thrown (logarithm)");
        DefiniteRows x = new DefiniteRows();
        for (int n : new int[] {Integer.MIN_VALUE, -2, 0, 1, 4, 6, 9, 12, 13, Integer.MAX_VALUE}) {
            Check.refused("none is known, and no such prime", STATE, () -> x.logarithm(n));
        }
        x.integral(0, 1);
        Check.refused("no such prime", ARGUMENT, () -> x.logarithm(4));
    }

    /** A twin that has not had the refused call answers as one that has, then and in later calls. */
    private static void nothingChanges() {
        Check.sentence("Of several the one that stands first behind \"throws\" is thrown; nothing changes.");
        for (int state = 0; state < STATES; state++) {
            String due = stateOf(made(state));
            String later = laterCalls(made(state));
            for (Refused refused : refusedIn(state)) {
                String what = "state " + state + ", " + refused.call();
                DefiniteRows x = made(state);
                Check.refused(what, refused.due(), () -> refused.use().of(x));
                Check.due(what + ", behind it", stateOf(x), due);
                DefiniteRows y = made(state);
                Check.refused(what, refused.due(), () -> refused.use().of(y));
                Check.due(what + ", later calls", laterCalls(y), later);
            }
        }
    }

    private static void nothingChangesByReading() {
        Check.sentence("Nothing is promised beyond the answers and state changes described above");
        for (int state = 0; state < STATES; state++) {
            DefiniteRows x = made(state);
            String due = stateOf(x);
            Check.due("state " + state + ", asked again", stateOf(x), due);
            Check.due("state " + state + ", later calls", laterCalls(x), laterCalls(made(state)));
        }
    }

    private static void severalRefusedInARow() {
        Check.sentence("nothing changes (by many refused calls, one behind another)");
        for (int state = 0; state < STATES; state++) {
            DefiniteRows x = made(state);
            int calls = 0;
            for (Refused refused : refusedIn(state)) {
                if (calls < 250) {
                    Check.refused("state " + state + ", " + refused.call(), refused.due(), () -> refused.use().of(x));
                    calls++;
                }
            }
            Check.due("state " + state + ", behind all", stateOf(x), stateOf(made(state)));
            Check.due("state " + state + ", later calls", laterCalls(x), laterCalls(made(state)));
        }
    }

    /** 0 a new one; 1 no CUT, KNOWN; 2 one CUT, KNOWN; 3 three, KNOWN; 4 three, none KNOWN; 5 two, once 3, KNOWN. */
    private static DefiniteRows made(int state) {
        DefiniteRows x = new DefiniteRows();
        if (state == 0) {
            return x;
        }
        for (int number = 0; number <= 7; number++) {
            x.put(0, number, number - 3);
        }
        int[] places = {-5, 0, 6};
        int[] poles = {-3, 3, 6};
        for (int k = 0; k < 3 && (state >= 3 || state == 2 && k == 0); k++) {
            x.cut(places[k]);
            x.put(k + 1, k, 5);
            x.put(k + 1, 7, poles[k]);
        }
        if (state == 5) {
            x.join(1);
        }
        x.integral(5, 6);
        if (state == 4) {
            x.integral(5, 9);
        }
        return x;
    }

    private static List<Refused> refusedIn(int state) {
        int cuts = made(state).cuts();
        List<Refused> all = new ArrayList<>();
        refusedCuts(all, state, cuts);
        refusedByIndex(all, cuts);
        refusedPuts(all, cuts);
        refusedValues(all, state);
        refusedIntegrals(all);
        refusedFractions(all, state == 0 || state == 4);
        return all;
    }

    private static void refusedCuts(List<Refused> all, int state, int cuts) {
        for (int at : beside(-6, 6)) {
            all.add(new Refused("cut(" + at + ")", ARGUMENT, x -> x.cut(at)));
        }
        for (int k = 0; k < cuts; k++) {
            int at = made(state).place(k);
            all.add(new Refused("cut(" + at + ")", ARGUMENT, x -> x.cut(at)));
        }
        if (cuts == 3) {
            for (int at : new int[] {-6, -4, -1, 1, 5}) {
                all.add(new Refused("cut(" + at + ")", STATE, x -> x.cut(at)));
            }
        }
    }

    private static void refusedByIndex(List<Refused> all, int cuts) {
        for (int k : beside(0, cuts - 1)) {
            all.add(new Refused("join(" + k + ")", INDEX, x -> done(() -> x.join(k))));
            all.add(new Refused("place(" + k + ")", INDEX, x -> x.place(k)));
        }
        for (int piece : beside(0, cuts)) {
            all.add(new Refused("at(" + piece + ", 7)", INDEX, x -> x.at(piece, 7)));
            all.add(new Refused("put(" + piece + ", 7, 1)", INDEX, x -> number(x.put(piece, 7, 1))));
        }
    }

    private static void refusedPuts(List<Refused> all, int cuts) {
        for (int number : beside(0, 7)) {
            all.add(new Refused("at(0, " + number + ")", ARGUMENT, x -> x.at(0, number)));
            all.add(new Refused("put(0, " + number + ", 1)", ARGUMENT, x -> number(x.put(0, number, 1))));
        }
        for (int i = 0; i < 8 * (cuts + 1); i++) {
            int piece = i / 8;
            int number = i % 8;
            int v = number == 7 ? 7 : 6;
            String call = "put(" + piece + ", " + number + ", ";
            all.add(new Refused(call + v + ")", ARGUMENT, x -> number(x.put(piece, number, v))));
            all.add(new Refused(call + -v + ")", ARGUMENT, x -> number(x.put(piece, number, -v))));
        }
    }

    private static void refusedValues(List<Refused> all, int state) {
        for (int at : beside(-6, 6)) {
            all.add(new Refused("value(" + at + ", 0)", ARGUMENT, x -> x.value(at, 0)));
        }
        for (int part : beside(0, 1)) {
            all.add(new Refused("value(4, " + part + ")", ARGUMENT, x -> x.value(4, part)));
        }
        for (int pole : POLES[state]) {
            all.add(new Refused("value(" + pole + ", 0)", STATE, x -> x.value(pole, 0)));
            all.add(new Refused("value(" + pole + ", 1)", STATE, x -> x.value(pole, 1)));
            all.add(new Refused("value(" + pole + ", 2)", ARGUMENT, x -> x.value(pole, 2)));
        }
    }

    private static void refusedIntegrals(List<Refused> all) {
        for (int no : new int[] {-10, -8, -7, 7, 8, 10, Integer.MIN_VALUE, Integer.MAX_VALUE}) {
            all.add(new Refused("integral(" + no + ", 0)", ARGUMENT, x -> number(x.integral(no, 0))));
            all.add(new Refused("integral(0, " + no + ")", ARGUMENT, x -> number(x.integral(0, no))));
            all.add(new Refused("integral(-9, " + no + ")", ARGUMENT, x -> number(x.integral(-9, no))));
            all.add(new Refused("integral(" + no + ", " + no + ")", ARGUMENT, x -> number(x.integral(no, no))));
        }
    }

    private static void refusedFractions(List<Refused> all, boolean noneKnown) {
        for (int n : beside(0, 1)) {
            all.add(new Refused("fraction(" + n + ")", noneKnown ? STATE : ARGUMENT, x -> x.fraction(n)));
        }
        for (int n : new int[] {Integer.MIN_VALUE, -2, 0, 1, 4, 6, 8, 9, 10, 12, 13, Integer.MAX_VALUE}) {
            all.add(new Refused("logarithm(" + n + ")", noneKnown ? STATE : ARGUMENT, x -> x.logarithm(n)));
        }
        for (int part = 0; part <= 1 && noneKnown; part++) {
            int p = part;
            all.add(new Refused("fraction(" + p + ")", STATE, x -> x.fraction(p)));
        }
        for (int prime : new int[] {2, 3, 5, 7, 11}) {
            if (noneKnown) {
                all.add(new Refused("logarithm(" + prime + ")", STATE, x -> x.logarithm(prime)));
            }
        }
    }

    /** Changes of every kind, each told, and what is there in the end. */
    private static String laterCalls(DefiniteRows x) {
        StringBuilder told = new StringBuilder();
        tell(told, "cut", () -> x.cut(-3));
        tell(told, "put", () -> number(x.put(1, 0, 4)));
        tell(told, "put", () -> number(x.put(0, 7, 4)));
        tell(told, "mirror", () -> done(x::mirror));
        tell(told, "integral", () -> number(x.integral(1, 2)));
        tell(told, "fraction", () -> x.fraction(0));
        tell(told, "join", () -> done(() -> x.join(0)));
        tell(told, "cut", () -> x.cut(2));
        tell(told, "symmetry", x::symmetry);
        told.append(stateOf(x));
        tell(told, "clear", () -> done(x::clear));
        tell(told, "cuts", x::cuts);
        return told.toString();
    }
}
