/** Counts the answers that are not as due, for the tests beside it. */
final class Check {
    interface Call {
        long run();
    }

    private static int checks = 0;
    private static int wrong = 0;

    private Check() {
    }

    static void due(String what, long got, long want) {
        note(what, got == want, Long.toString(got), Long.toString(want));
    }

    static void due(String what, boolean got, boolean want) {
        note(what, got == want, Boolean.toString(got), Boolean.toString(want));
    }

    static void due(String what, String got, String want) {
        note(what, got.equals(want), got, want);
    }

    static void refused(String what, Class<? extends RuntimeException> want, Call call) {
        due(what, answerOf(call), "throws." + want.getSimpleName());
    }

    /** Subclasses show by their own name: what the machine throws is never taken for what the class throws. */
    static String answerOf(Call call) {
        try {
            return Long.toString(call.run());
        } catch (RuntimeException e) {
            return "throws." + e.getClass().getSimpleName();
        }
    }

    static void end(String test) {
        System.out.println(test + ": " + checks + " checks, " + wrong + " wrong");
        if (wrong != 0 || checks == 0) {
            System.exit(1);
        }
    }

    private static void note(String what, boolean right, String got, String want) {
        checks++;
        if (right) {
            return;
        }
        wrong++;
        if (wrong <= 40) {
            System.out.println(what + " answered " + got + ", due is " + want);
        }
    }
}
