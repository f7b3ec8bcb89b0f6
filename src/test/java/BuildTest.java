/** Promises 1 to 4: a new object, gate, feed, cut. */
public final class BuildTest {
    private static final int INPUT = 0;
    private static final int LATCH = 1;
    private static final int AND = 2;
    private static final int OR = 3;
    private static final int[] EDGES = {-1, 0, 1, 600, Integer.MAX_VALUE, Integer.MIN_VALUE};

    public static void main(String[] args) {
        newObject();
        gates();
        fullOfGates();
        feeds();
        fullOfFeeds();
        cuts();
        failuresChangeNothing();
        Check.end();
    }

    private static void newObject() {
        TernaryNet x = new TernaryNet();
        for (int what = 0; what <= 6; what++) {
            Check.due("new count(" + what + ")", x.count(what), 0);
        }
        Check.due("new count(7)", x.count(7), 1);
        Check.due("new choices()", x.choices(), 1);
        Check.due("new step()", x.step(), 0);
        Check.due("new reset()", x.reset(), 0);
        for (int g : EDGES) {
            Check.index("new value(" + g + ")", () -> x.value(g));
            Check.index("new round(" + g + ")", () -> x.round(g));
            Check.index("new blame(" + g + ")", () -> x.blame(g));
            Check.index("new cycle(" + g + ")", () -> x.cycle(g));
            Check.index("new cut(" + g + ")", () -> x.cut(g));
            Check.index("new set(" + g + ", 0)", () -> x.set(g, 0));
            Check.index("new feed(" + g + ", " + g + ")", () -> x.feed(g, g, false));
        }
        new TernaryNet().gate(INPUT);
        Check.due("objects are apart", x.count(0), 0);
    }

    private static void gates() {
        TernaryNet x = new TernaryNet();
        for (int i = 0; i < 4; i++) {
            Check.due("gate(" + i + ")", x.gate(i), i);
        }
        for (int sort : new int[] {-1, 4, 5, Integer.MAX_VALUE, Integer.MIN_VALUE}) {
            Check.argument("gate(" + sort + ")", () -> x.gate(sort));
        }
        Check.due("gates", x.count(0), 4);
        Check.due("inputs", x.count(2), 1);
        Check.due("latches", x.count(3), 1);
        Check.due("feeds", x.count(1), 0);
        Check.due("a new input", x.value(0), 2);
        Check.due("a new latch", x.value(1), 0);
        for (int i = 1; i < 12; i++) {
            Check.due("input " + i, x.gate(INPUT), 3 + i);
        }
        Check.due("a thirteenth input", x.gate(INPUT), TernaryNet.NONE);
        Check.due("inputs then", x.count(2), 12);
        Check.due("gates then", x.count(0), 15);
        Check.due("an and then", x.gate(AND), 15);
    }

    private static void fullOfGates() {
        TernaryNet x = new TernaryNet();
        for (int i = 0; i < 600; i++) {
            Check.due("gate number " + i, x.gate(i < 11 ? INPUT : AND), i);
        }
        for (int sort = 0; sort < 4; sort++) {
            Check.due("gate 601 of sort " + sort, x.gate(sort), TernaryNet.NONE);
        }
        Check.argument("gate(4) when full", () -> x.gate(4));
        Check.due("gates when full", x.count(0), 600);
        Check.due("inputs when full", x.count(2), 11);
        Check.due("latches when full", x.count(3), 0);
        Check.due("value(599)", x.value(599), 1);
        Check.index("value(600)", () -> x.value(600));
    }

    private static void feeds() {
        TernaryNet x = new TernaryNet();
        int input = x.gate(INPUT);
        int latch = x.gate(LATCH);
        int and = x.gate(AND);
        int or = x.gate(OR);
        Check.due("first feed", x.feed(and, input, false), 1);
        Check.due("the same feed again", x.feed(and, input, false), 2);
        Check.due("the same feed negated", x.feed(and, input, true), 3);
        Check.due("a feed from itself", x.feed(and, and, false), 4);
        Check.due("an or's first feed", x.feed(or, latch, true), 1);
        Check.due("a latch's feed", x.feed(latch, or, true), 1);
        Check.state("a latch's second feed", () -> x.feed(latch, or, true));
        Check.state("an input's feed", () -> x.feed(input, or, false));
        Check.state("an input's feed from itself", () -> x.feed(input, input, false));
        for (int g : new int[] {-1, 4, 600, Integer.MAX_VALUE, Integer.MIN_VALUE}) {
            Check.index("feed to " + g, () -> x.feed(g, and, false));
            Check.index("feed from " + g, () -> x.feed(and, g, false));
            Check.index("feed of an input from " + g, () -> x.feed(input, g, true));
            Check.index("feed of a full latch from " + g, () -> x.feed(latch, g, true));
        }
        Check.due("feeds", x.count(1), 6);
    }

    private static void fullOfFeeds() {
        TernaryNet x = new TernaryNet();
        int input = x.gate(INPUT);
        int empty = x.gate(LATCH);
        int full = x.gate(LATCH);
        int and = x.gate(AND);
        int or = x.gate(OR);
        Check.due("the latch's feed", x.feed(full, input, false), 1);
        for (int i = 1; i < 2400; i++) {
            Check.due("feed " + i, x.feed(or, i == 2399 ? input : and, true), i);
        }
        Check.due("feeds when full", x.count(1), 2400);
        Check.due("feed of an or when full", x.feed(or, and, false), TernaryNet.NONE);
        Check.due("feed of an and when full", x.feed(and, and, false), TernaryNet.NONE);
        Check.due("feed of an empty latch when full", x.feed(empty, and, false), TernaryNet.NONE);
        Check.state("feed of a full latch when full", () -> x.feed(full, and, false));
        Check.state("feed of an input when full", () -> x.feed(input, and, false));
        Check.index("feed to none when full", () -> x.feed(5, and, false));
        Check.index("feed from none when full", () -> x.feed(or, -1, false));
        Check.due("feeds still", x.count(1), 2400);
        Check.due("the or", x.value(or), 2);
        Check.due("choices of the full net", x.choices(), 2);
        Check.due("cut of the or", x.cut(or), 2399);
        Check.due("feeds after the cut", x.count(1), 1);
        Check.due("feed after the cut", x.feed(empty, and, false), 1);
    }

    private static void cuts() {
        TernaryNet x = new TernaryNet();
        int input = x.gate(INPUT);
        int latch = x.gate(LATCH);
        int and = x.gate(AND);
        int or = x.gate(OR);
        x.feed(and, input, false);
        x.feed(and, input, true);
        x.feed(or, and, false);
        x.feed(or, or, false);
        x.feed(latch, and, false);
        Check.due("the and before", x.value(and), 2);
        Check.due("cut of an and", x.cut(and), 2);
        Check.due("the and without feeds", x.value(and), 1);
        Check.due("what it feeds still", x.value(or), 1);
        Check.due("feeds left", x.count(1), 3);
        Check.due("cut again", x.cut(and), 0);
        Check.due("cut of an input", x.cut(input), 0);
        Check.due("cut of a latch", x.cut(latch), 1);
        Check.due("the latch can be fed again", x.feed(latch, input, false), 1);
        Check.due("the or's cycle", x.cycle(or), or);
        Check.due("cut of the or", x.cut(or), 2);
        Check.due("no cycle", x.cycle(or), TernaryNet.NONE);
        Check.due("an or without feeds", x.value(or), 0);
        Check.due("feeds at the end", x.count(1), 1);
        for (int g : new int[] {-1, 4, Integer.MAX_VALUE, Integer.MIN_VALUE}) {
            Check.index("cut(" + g + ")", () -> x.cut(g));
        }
    }

    private static void failuresChangeNothing() {
        TernaryNet x = new TernaryNet();
        int latch = x.gate(LATCH);
        int and = x.gate(AND);
        x.feed(latch, and, false);
        Check.state("second feed", () -> x.feed(latch, latch, true));
        Check.argument("set of a latch", () -> x.set(latch, 1));
        Check.argument("no sort", () -> x.gate(7));
        Check.index("no gate", () -> x.feed(and, 2, false));
        Check.due("feeds", x.count(1), 1);
        Check.due("gates", x.count(0), 2);
        Check.due("the latch", x.value(latch), 0);
        Check.due("step", x.step(), 1);
        Check.due("the latch then", x.value(latch), 1);
    }
}
