/** Counts the answers that are not as due; a test's main ends with end(). */
final class Check {
    interface Call {
        int answer();
    }

    interface Body {
        void run();
    }

    private static final int MOST_TOLD = 40;

    private static int wrong = 0;
    private static String running = "";

    private Check() {
    }

    /** One named test: what goes wrong in it is told under its name and does not stop the others. */
    static void test(String name, Body body) {
        running = name;
        int before = wrong;
        try {
            body.run();
        } catch (RuntimeException e) {
            tell("stopped by " + e);
        }
        running = "";
        System.out.println((wrong == before ? "  holds   " : "  BROKEN  ") + name);
    }

    static void due(String what, long got, long want) {
        if (got != want) {
            tell(what + " answered " + got + ", due is " + want);
        }
    }

    static void same(String what, String got, String want) {
        if (!got.equals(want)) {
            tell(what + " answered " + got + ", due is " + want);
        }
    }

    /** The answer as text: a number, or "throws." and the name of what was thrown. */
    static String told(Call call) {
        try {
            return Integer.toString(call.answer());
        } catch (RuntimeException e) {
            return "throws." + e.getClass().getSimpleName() + (isThrownByItself(e) ? "" : " by the library");
        }
    }

    // A list's own IndexOutOfBoundsException would look as if the class had tested the index.
    private static boolean isThrownByItself(RuntimeException e) {
        StackTraceElement[] trace = e.getStackTrace();
        if (trace.length == 0) {
            return false;
        }
        String name = trace[0].getClassName();
        return name.equals("TernaryNet") || name.startsWith("TernaryNet$") || name.equals("PlainNet");
    }

    static void index(String what, TernaryNet x, Call call) {
        refused(what, x, call, "throws.IndexOutOfBoundsException");
    }

    static void argument(String what, TernaryNet x, Call call) {
        refused(what, x, call, "throws.IllegalArgumentException");
    }

    static void state(String what, TernaryNet x, Call call) {
        refused(what, x, call, "throws.IllegalStateException");
    }

    static void none(String what, TernaryNet x, Call call) {
        refused(what, x, call, Integer.toString(TernaryNet.NONE));
    }

    /** A refused call answers so, and all that can be asked of the net stays as it was. */
    private static void refused(String what, TernaryNet x, Call call, String want) {
        String before = Nets.picture(x);
        same(what, told(call), want);
        same("the net after " + what, Nets.picture(x), before);
    }

    private static void tell(String text) {
        wrong++;
        if (wrong <= MOST_TOLD) {
            System.out.println(running.isEmpty() ? text : running + ": " + text);
        }
    }

    static void end() {
        System.out.println(wrong == 0 ? "all answers are as due" : wrong + " answers are not as due");
        if (wrong != 0) {
            System.exit(1);
        }
    }
}
