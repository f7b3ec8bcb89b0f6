/** The words of the document's 'Terms', and the nets that several tests begin with. */
final class Nets {
    static final int INPUT = 0;
    static final int LATCH = 1;
    static final int AND = 2;
    static final int OR = 3;
    static final int UNKNOWN = 2;
    static final int NONE = TernaryNet.NONE;

    static final int MOST_GATES = 600;
    static final int MOST_FEEDS = 2400;
    static final int MOST_INPUTS = 12;

    /** A call of the face that takes the number of a gate. */
    interface GateCall {
        int answer(TernaryNet x, int gate);
    }

    private Nets() {
    }

    static TernaryNet of(int... sorts) {
        TernaryNet x = new TernaryNet();
        for (int sort : sorts) {
            x.gate(sort);
        }
        return x;
    }

    /** An input, a latch, an and and an or, with all the feeds they need to be of interest. */
    static TernaryNet small() {
        TernaryNet x = of(INPUT, LATCH, AND, OR);
        x.feed(1, 3, true);
        x.feed(2, 0, false);
        x.feed(2, 1, true);
        x.feed(3, 2, false);
        x.feed(3, 3, false);
        return x;
    }

    /**
     * Inputs that are 1, 0 and unknown (0, 1, 2), latches that are 1 and 0 (3, 4), an and and an or on
     * one cycle (5, 6): all that a gate can hold is there, so whatever a call upsets can be seen. When
     * gate 2 is 0 the net settles, and a step would make gate 3 a 0.
     */
    static TernaryNet lively() {
        TernaryNet x = of(INPUT, INPUT, INPUT, LATCH, LATCH, AND, OR);
        x.feed(3, 0, false);
        x.feed(4, 1, false);
        x.set(0, 1);
        x.set(1, 0);
        x.set(2, 0);
        x.step();
        x.set(2, UNKNOWN);
        x.cut(3);
        x.feed(3, 0, true);
        x.feed(5, 2, false);
        x.feed(5, 3, false);
        x.feed(5, 6, true);
        x.feed(6, 5, false);
        x.feed(6, 4, false);
        return x;
    }

    /** The values of the lively net's inputs and latches. */
    static void livelyHolds(String what, TernaryNet x) {
        int[] values = {1, 0, 2, 1, 0};
        for (int g = 0; g < values.length; g++) {
            Check.due(what + ": gate " + g + " holds", x.value(g), values[g]);
        }
    }

    /** How many feeds each gate had: all are cut. */
    static void feedsWere(String what, TernaryNet x, int... feeds) {
        for (int g = 0; g < feeds.length; g++) {
            Check.due(what + ": feeds of gate " + g, x.cut(g), feeds[g]);
        }
        Check.due(what + ": feeds left", x.count(1), 0);
    }

    /** Asking changes nothing: a net that was asked holds what it held, and goes on as one that was not. */
    static void asking(String what, GateCall call) {
        for (int v = 0; v <= 2; v++) {
            TernaryNet x = lively();
            x.set(2, v);
            askAll(x, call);
            // Told by calls that change the net: what is under test here is no witness for itself.
            int[] given = {1, 0, v};
            for (int g = 0; g < given.length; g++) {
                Check.due(what + ": input " + g + " was", x.set(g, 1), given[g]);
            }
            Check.due(what + ": latches that were 1", x.reset(), 1);
            feedsWere(what, x, 0, 0, 0, 1, 1, 3, 2);
        }
        goesOnAsATwin(what, call);
    }

    private static void goesOnAsATwin(String what, GateCall call) {
        TernaryNet x = lively();
        TernaryNet twin = lively();
        askAll(x, call);
        Check.same("the net after " + what, picture(x), picture(twin));
        for (int v = 0; v <= 2; v++) {
            Check.due(what + ": set", x.set(2, v), twin.set(2, v));
            askAll(x, call);
            Check.due(what + ": step", x.step(), twin.step());
            Check.same(what + ": the net after a step", picture(x), picture(twin));
        }
    }

    private static void askAll(TernaryNet x, GateCall call) {
        for (int g = 0; g < 7; g++) {
            call.answer(x, g);
        }
    }

    /** 600 gates, 12 of them inputs: more calls than are promised, but the limit is a term's own. */
    static TernaryNet fullOfGates() {
        TernaryNet x = new TernaryNet();
        for (int i = 0; i < MOST_GATES; i++) {
            x.gate(i < MOST_INPUTS ? INPUT : 1 + i % 3);
        }
        return x;
    }

    /** Numbers of gates that are not there: just too small, just too large, and far away. */
    static int[] outside(TernaryNet x) {
        int n = x.count(0);
        return new int[] {-1, -2, Integer.MIN_VALUE, n, n + 1, MOST_GATES, Integer.MAX_VALUE};
    }

    /** The call on every number outside an empty, a small and a full net. */
    static void indexOutside(String what, GateCall call) {
        for (TernaryNet x : new TernaryNet[] {new TernaryNet(), of(AND), small(), fullOfGates()}) {
            for (int g : outside(x)) {
                Check.index(what + " of " + g + " where " + x.count(0) + " are", x, () -> call.answer(x, g));
            }
        }
    }

    /** All that can be asked without a change. */
    static String picture(TernaryNet x) {
        StringBuilder told = new StringBuilder();
        for (int what = 0; what <= 7; what++) {
            told.append(x.count(what)).append(' ');
        }
        told.append(x.choices());
        for (int g = 0; g < x.count(0); g++) {
            told.append(pictureOf(x, g));
        }
        return told.toString();
    }

    static String pictureOf(TernaryNet x, int g) {
        return " | " + x.value(g) + " " + x.round(g) + " " + x.blame(g) + " " + x.cycle(g);
    }
}
