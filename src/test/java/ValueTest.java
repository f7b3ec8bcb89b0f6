/** Promises 5 to 7 and 10: set, value, round, blame. */
public final class ValueTest {
    private static final int INPUT = 0;
    private static final int LATCH = 1;
    private static final int AND = 2;
    private static final int OR = 3;
    private static final int[] OUTSIDE = {-1, 4, 600, Integer.MAX_VALUE, Integer.MIN_VALUE};

    public static void main(String[] args) {
        sets();
        tables();
        roundsOfAChain();
        roundsByTheFirstThatDecides();
        cyclesThatSettle();
        blames();
        outside();
        Check.end();
    }

    private static void sets() {
        TernaryNet x = new TernaryNet();
        int input = x.gate(INPUT);
        int latch = x.gate(LATCH);
        int and = x.gate(AND);
        int or = x.gate(OR);
        int[] given = {0, 1, 2, 2, 1, 0, 0};
        int before = 2;
        for (int v : given) {
            Check.due("set(" + v + ")", x.set(input, v), before);
            Check.due("value of the input", x.value(input), v);
            Check.due("round of the input", x.round(input), v == 2 ? TernaryNet.NONE : 0);
            before = v;
        }
        for (int v : new int[] {-1, 3, Integer.MAX_VALUE, Integer.MIN_VALUE}) {
            Check.argument("set(input, " + v + ")", () -> x.set(input, v));
            Check.argument("set(latch, " + v + ")", () -> x.set(latch, v));
            Check.index("set(4, " + v + ")", () -> x.set(4, v));
        }
        for (int v = 0; v <= 2; v++) {
            int w = v;
            Check.argument("set(latch)", () -> x.set(latch, w));
            Check.argument("set(and)", () -> x.set(and, w));
            Check.argument("set(or)", () -> x.set(or, w));
        }
        Check.due("the input still", x.value(input), 0);
    }

    private static void tables() {
        int[][] andOf = {{0, 0, 0}, {0, 1, 2}, {0, 2, 2}};
        int[][] orOf = {{0, 1, 2}, {1, 1, 1}, {2, 1, 2}};
        for (int a = 0; a <= 2; a++) {
            for (int b = 0; b <= 2; b++) {
                for (int negations = 0; negations < 4; negations++) {
                    TernaryNet x = new TernaryNet();
                    x.gate(INPUT);
                    x.gate(INPUT);
                    x.gate(AND);
                    x.gate(OR);
                    boolean n0 = (negations & 1) != 0;
                    boolean n1 = (negations & 2) != 0;
                    for (int to = 2; to <= 3; to++) {
                        x.feed(to, 0, n0);
                        x.feed(to, 1, n1);
                    }
                    x.set(0, a);
                    x.set(1, b);
                    int p = n0 && a != 2 ? 1 - a : a;
                    int q = n1 && b != 2 ? 1 - b : b;
                    Check.due("and of " + p + q, x.value(2), andOf[p][q]);
                    Check.due("or of " + p + q, x.value(3), orOf[p][q]);
                    Check.due("and's round", x.round(2), andOf[p][q] == 2 ? TernaryNet.NONE : 1);
                    Check.due("or's round", x.round(3), orOf[p][q] == 2 ? TernaryNet.NONE : 1);
                }
            }
        }
    }

    private static void roundsOfAChain() {
        TernaryNet up = new TernaryNet();
        TernaryNet down = new TernaryNet();
        int n = 200;
        up.gate(INPUT);
        down.gate(INPUT);
        for (int i = 1; i <= n; i++) {
            up.gate(i % 2 == 0 ? AND : OR);
            down.gate(i % 2 == 0 ? AND : OR);
        }
        for (int i = 1; i <= n; i++) {
            up.feed(i, i - 1, true);
            down.feed(i, i == n ? 0 : i + 1, true);
        }
        Check.due("nothing known", up.count(4), n + 1);
        Check.due("no rounds", up.count(5), 0);
        up.set(0, 1);
        down.set(0, 1);
        for (int i = 1; i <= n; i++) {
            Check.due("up round " + i, up.round(i), i);
            Check.due("down round " + i, down.round(i), n + 1 - i);
            Check.due("up value " + i, up.value(i), i % 2 == 0 ? 1 : 0);
        }
    }

    private static void roundsByTheFirstThatDecides() {
        TernaryNet x = new TernaryNet();
        x.gate(LATCH);
        x.gate(AND);
        x.gate(OR);
        x.gate(OR);
        x.gate(AND);
        x.gate(OR);
        x.feed(2, 1, false);
        x.feed(3, 2, true);
        x.feed(4, 3, true);
        x.feed(4, 0, false);
        x.feed(5, 3, false);
        x.feed(5, 0, false);
        Check.due("a latch's round", x.round(0), 0);
        Check.due("an empty and's round", x.round(1), 1);
        Check.due("an empty and's value", x.value(1), 1);
        Check.due("round 2", x.round(2), 2);
        Check.due("round 3", x.round(3), 3);
        Check.due("an and by a 0 of round 0", x.round(4), 1);
        Check.due("an or that waits for all", x.round(5), 4);
        Check.due("its value", x.value(5), 0);
        Check.due("rounds", x.count(5), 4);
        x.gate(OR);
        Check.due("an empty or's value", x.value(6), 0);
        Check.due("an empty or's round", x.round(6), 1);
    }

    private static void cyclesThatSettle() {
        TernaryNet x = new TernaryNet();
        x.gate(INPUT);
        x.gate(AND);
        x.gate(OR);
        x.feed(1, 0, false);
        x.feed(1, 2, false);
        x.feed(2, 1, false);
        Check.due("unknown", x.value(2), 2);
        x.set(0, 0);
        Check.due("0 comes through", x.value(2), 0);
        Check.due("in round 2", x.round(2), 2);
        x.set(0, 1);
        Check.due("what was known before is forgotten", x.value(2), 2);
        Check.due("round of an unknown", x.round(1), TernaryNet.NONE);
        x.gate(AND);
        x.feed(3, 0, false);
        x.set(0, 2);
        x.feed(3, 0, true);
        Check.due("x and not x", x.value(3), 2);
    }

    private static void blames() {
        TernaryNet x = new TernaryNet();
        x.gate(OR);
        x.gate(INPUT);
        x.gate(AND);
        x.gate(INPUT);
        x.gate(LATCH);
        x.feed(2, 3, false);
        x.feed(2, 1, true);
        x.feed(2, 4, true);
        x.feed(0, 2, false);
        x.feed(0, 3, true);
        x.feed(4, 1, false);
        Check.due("an input blames itself", x.blame(1), 1);
        Check.due("the least feed", x.blame(2), 1);
        Check.due("not the least of all", x.blame(0), 2);
        Check.due("a latch is known", x.blame(4), TernaryNet.NONE);
        x.set(1, 0);
        Check.due("the other one", x.blame(2), 3);
        Check.due("a known input", x.blame(1), TernaryNet.NONE);
        x.set(3, 0);
        Check.due("a known and", x.blame(2), TernaryNet.NONE);
        Check.due("a known or", x.blame(0), TernaryNet.NONE);
        x.gate(AND);
        x.feed(5, 5, true);
        Check.due("a gate that feeds itself", x.blame(5), 5);
        x.feed(0, 5, false);
        Check.due("a known one again", x.value(0), 1);
        x.set(3, 1);
        Check.due("the and is known", x.value(2), 1);
        x.set(3, 2);
        x.feed(5, 3, false);
        Check.due("the lesser of two", x.blame(5), 3);
    }

    private static void outside() {
        TernaryNet x = new TernaryNet();
        for (int sort = 0; sort < 4; sort++) {
            x.gate(sort);
        }
        for (int g : OUTSIDE) {
            Check.index("value(" + g + ")", () -> x.value(g));
            Check.index("round(" + g + ")", () -> x.round(g));
            Check.index("blame(" + g + ")", () -> x.blame(g));
            Check.index("set(" + g + ", 0)", () -> x.set(g, 0));
        }
    }
}
