/** Counts the answers that are not as due, for the tests beside it. */
final class Check {
    interface Call {
        long run();
    }

    private static int checks = 0;
    private static int wrong = 0;
    private static String sentence = "";
    private static int checksBeforeSentence = 0;

    private Check() {
    }

    /** The document's words that the checks behind this call hold the class to; each must be followed by one. */
    static void sentence(String words) {
        endSentence();
        sentence = words;
        checksBeforeSentence = checks;
    }

    static void due(String what, long got, long want) {
        note(what, got == want, Long.toString(got), Long.toString(want));
    }

    static void due(String what, boolean got, boolean want) {
        note(what, got == want, Boolean.toString(got), Boolean.toString(want));
    }

    static void due(String what, String got, String want) {
        note(what, got.equals(want), got, want);
    }

    static void refused(String what, Class<? extends RuntimeException> want, Call call) {
        due(what, answerOf(call), "throws." + want.getSimpleName());
    }

    /** Subclasses show by their own name: what the machine throws is never taken for what the class throws. */
    static String answerOf(Call call) {
        try {
            return Long.toString(call.run());
        } catch (RuntimeException e) {
            return "throws." + e.getClass().getSimpleName();
        }
    }

    static void end(String test) {
        endSentence();
        System.out.println(test + ": " + checks + " checks, " + wrong + " wrong");
        if (wrong != 0 || checks == 0) {
            System.exit(1);
        }
    }

    private static void endSentence() {
        if (!sentence.isEmpty() && checks == checksBeforeSentence) {
            note("a sentence without a check", false, "nothing", "something");
        }
    }

    private static void note(String what, boolean right, String got, String want) {
        checks++;
        if (right) {
            return;
        }
        wrong++;
        if (wrong <= 40) {
            String where = sentence.isEmpty() ? "" : "\"" + sentence + "\": ";
            System.out.println(where + what + " answered " + got + ", due is " + want);
        }
    }
}
