/** The words of the document's 'Terms', and the nets that several tests begin with. */
final class Nets {
    static final int INPUT = 0;
    static final int LATCH = 1;
    static final int AND = 2;
    static final int OR = 3;
    static final int UNKNOWN = 2;
    static final int NONE = TernaryNet.NONE;

    static final int MOST_GATES = 600;
    static final int MOST_FEEDS = 2400;
    static final int MOST_INPUTS = 12;

    /** A call of the face that takes the number of a gate. */
    interface GateCall {
        int answer(TernaryNet x, int gate);
    }

    private Nets() {
    }

    static TernaryNet of(int... sorts) {
        TernaryNet x = new TernaryNet();
        for (int sort : sorts) {
            x.gate(sort);
        }
        return x;
    }

    /** An input, a latch, an and and an or, with all the feeds they need to be of interest. */
    static TernaryNet small() {
        TernaryNet x = of(INPUT, LATCH, AND, OR);
        x.feed(1, 3, true);
        x.feed(2, 0, false);
        x.feed(2, 1, true);
        x.feed(3, 2, false);
        x.feed(3, 3, false);
        return x;
    }

    /** 600 gates, 12 of them inputs: more calls than are promised, but the limit is a term's own. */
    static TernaryNet fullOfGates() {
        TernaryNet x = new TernaryNet();
        for (int i = 0; i < MOST_GATES; i++) {
            x.gate(i < MOST_INPUTS ? INPUT : 1 + i % 3);
        }
        return x;
    }

    /** Numbers of gates that are not there: just too small, just too large, and far away. */
    static int[] outside(TernaryNet x) {
        int n = x.count(0);
        return new int[] {-1, -2, Integer.MIN_VALUE, n, n + 1, MOST_GATES, Integer.MAX_VALUE};
    }

    /** The call on every number outside an empty, a small and a full net. */
    static void indexOutside(String what, GateCall call) {
        for (TernaryNet x : new TernaryNet[] {new TernaryNet(), of(AND), small(), fullOfGates()}) {
            for (int g : outside(x)) {
                Check.index(what + " of " + g + " where " + x.count(0) + " are", x, () -> call.answer(x, g));
            }
        }
    }

    /** All that can be asked without a change. */
    static String picture(TernaryNet x) {
        StringBuilder told = new StringBuilder();
        for (int what = 0; what <= 7; what++) {
            told.append(x.count(what)).append(' ');
        }
        told.append(x.choices());
        for (int g = 0; g < x.count(0); g++) {
            told.append(" | ").append(x.value(g)).append(' ').append(x.round(g));
            told.append(' ').append(x.blame(g)).append(' ').append(x.cycle(g));
        }
        return told.toString();
    }
}
