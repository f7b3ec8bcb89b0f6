/** Promise 13: count. */
public final class CountTest {
    private static final int INPUT = 0;
    private static final int LATCH = 1;
    private static final int AND = 2;
    private static final int OR = 3;

    public static void main(String[] args) {
        TernaryNet x = new TernaryNet();
        all("new", x, 0, 0, 0, 0, 0, 0, 0, 1);
        int input = x.gate(INPUT);
        all("an input", x, 1, 0, 1, 0, 1, 0, 0, 0);
        int latch = x.gate(LATCH);
        all("a latch", x, 2, 0, 1, 1, 1, 0, 0, 0);
        int and = x.gate(AND);
        all("an and", x, 3, 0, 1, 1, 1, 1, 0, 0);
        int or = x.gate(OR);
        x.feed(or, and, true);
        all("an or", x, 4, 1, 1, 1, 1, 2, 0, 0);
        x.feed(and, input, false);
        all("unknown feeds", x, 4, 2, 1, 1, 3, 0, 0, 0);
        x.feed(and, and, false);
        x.feed(latch, and, false);
        all("a cycle", x, 4, 4, 1, 1, 3, 0, 1, 0);
        x.set(input, 0);
        all("a 0", x, 4, 4, 1, 1, 0, 2, 1, 1);
        x.set(input, 1);
        all("a 1", x, 4, 4, 1, 1, 2, 0, 1, 0);
        x.cut(and);
        all("a cut", x, 4, 2, 1, 1, 0, 2, 0, 1);
        x.set(input, 2);
        all("unknown again", x, 4, 2, 1, 1, 1, 2, 0, 0);
        for (int what : new int[] {-1, 8, 9, Integer.MAX_VALUE, Integer.MIN_VALUE}) {
            Check.due("count(" + what + ")", x.count(what), TernaryNet.NONE);
        }
        Check.end();
    }

    private static void all(String what, TernaryNet x, int... want) {
        for (int i = 0; i < want.length; i++) {
            Check.due(what + ": count(" + i + ")", x.count(i), want[i]);
        }
    }
}
