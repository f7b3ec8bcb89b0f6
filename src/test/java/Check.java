/** Counts the answers that are not as due; a test's main ends with end(). */
final class Check {
    interface Call {
        int answer();
    }

    private static int wrong = 0;

    private Check() {
    }

    static void due(String what, long got, long want) {
        if (got != want) {
            tell(what + " answered " + got + ", due is " + want);
        }
    }

    /** The answer as text: a number, or "throws." and the name of what was thrown. */
    static String told(Call call) {
        try {
            return Integer.toString(call.answer());
        } catch (RuntimeException e) {
            return "throws." + e.getClass().getSimpleName() + (isThrownByItself(e) ? "" : " by the library");
        }
    }

    // A list's own IndexOutOfBoundsException would look as if the class had tested the index.
    private static boolean isThrownByItself(RuntimeException e) {
        StackTraceElement[] trace = e.getStackTrace();
        if (trace.length == 0) {
            return false;
        }
        String name = trace[0].getClassName();
        return name.equals("TernaryNet") || name.equals("PlainNet");
    }

    static void same(String what, String got, String want) {
        if (!got.equals(want)) {
            tell(what + " answered " + got + ", due is " + want);
        }
    }

    static void index(String what, Call call) {
        same(what, told(call), "throws.IndexOutOfBoundsException");
    }

    static void argument(String what, Call call) {
        same(what, told(call), "throws.IllegalArgumentException");
    }

    static void state(String what, Call call) {
        same(what, told(call), "throws.IllegalStateException");
    }

    private static void tell(String text) {
        wrong++;
        if (wrong <= 40) {
            System.out.println(text);
        }
    }

    static void end() {
        System.out.println(wrong == 0 ? "all answers are as due" : wrong + " answers are not as due");
        if (wrong != 0) {
            System.exit(1);
        }
    }
}
