/** Counts the answers of a test that are not the ones that are due. */
final class Check {
    /** A call that may throw. */
    interface Call {
        Object answer();
    }

    /** A call without an answer that may throw. */
    interface Act {
        void run();
    }

    static final String ARGUMENT = "throws.IllegalArgumentException";
    static final String INDEX = "throws.IndexOutOfBoundsException";
    static final String STATE = "throws.IllegalStateException";
    static final String UNSUPPORTED = "throws.UnsupportedOperationException";
    static final String NO_ELEMENT = "throws.NoSuchElementException";
    static final String NOTHING = "nothing";

    private static int wrong = 0;

    private Check() {
    }

    /** The call's answer as a text, or the exception it throws. */
    static String answer(Call call) {
        try {
            return String.valueOf(call.answer());
        } catch (RuntimeException e) {
            return "throws." + e.getClass().getSimpleName();
        }
    }

    static String answer(Act act) {
        return answer(() -> {
            act.run();
            return NOTHING;
        });
    }

    static void due(String what, Object want, Call call) {
        compare(what, String.valueOf(want), answer(call));
    }

    static void dueAct(String what, Object want, Act act) {
        compare(what, String.valueOf(want), answer(act));
    }

    static void compare(String what, String want, String got) {
        if (!got.equals(want)) {
            wrong++;
            System.out.println(what + " answered " + got + ", due is " + want);
        }
    }

    static int wrongSoFar() {
        return wrong;
    }

    /** To be called last in each test. */
    static void end() {
        System.out.println(wrong == 0 ? "all answers are as due" : wrong + " answers are not as due");
        if (wrong != 0) {
            System.exit(1);
        }
    }
}
