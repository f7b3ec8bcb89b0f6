/** Promises 8 and 9: step, reset. */
public final class LatchTest {
    private static final int INPUT = 0;
    private static final int LATCH = 1;
    private static final int AND = 2;
    private static final int OR = 3;

    public static void main(String[] args) {
        allAtOnce();
        noStepWithoutSettling();
        counter();
        resets();
        Check.end();
    }

    private static void allAtOnce() {
        for (int turn = 0; turn < 2; turn++) {
            TernaryNet x = new TernaryNet();
            int n = 6;
            for (int i = 0; i < n; i++) {
                x.gate(LATCH);
            }
            int input = x.gate(INPUT);
            int way = turn == 0 ? 1 : n - 1;
            for (int i = 0; i < n; i++) {
                x.feed(i, (i + way) % n, false);
            }
            x.set(input, 1);
            x.cut(0);
            x.feed(0, input, false);
            Check.due("a 1 goes in", x.step(), 1);
            x.cut(0);
            x.feed(0, way, false);
            int at = 0;
            for (int step = 0; step < 20; step++) {
                Check.due("the 1 goes round", x.step(), 2);
                at = (at + n - way) % n;
                for (int i = 0; i < n; i++) {
                    Check.due("latch " + i + " in step " + step, x.value(i), i == at ? 1 : 0);
                }
            }
        }
    }

    private static void noStepWithoutSettling() {
        TernaryNet x = new TernaryNet();
        int latch = x.gate(LATCH);
        int input = x.gate(INPUT);
        x.feed(latch, latch, true);
        Check.due("an unknown input", x.step(), TernaryNet.NONE);
        Check.due("nothing changed", x.value(latch), 0);
        x.set(input, 0);
        Check.due("a known input", x.step(), 1);
        int or = x.gate(OR);
        x.feed(or, or, false);
        Check.due("an unknown or", x.step(), TernaryNet.NONE);
        Check.due("nothing changed again", x.value(latch), 1);
        x.feed(or, latch, false);
        Check.due("the latch makes it known", x.step(), 1);
        Check.due("and then no more", x.step(), TernaryNet.NONE);
        Check.due("the latch stays 0", x.value(latch), 0);
        int idle = x.gate(LATCH);
        x.cut(or);
        x.feed(idle, input, true);
        Check.due("both change", x.step(), 2);
        x.cut(idle);
        Check.due("without a feed it stays", x.step(), 1);
        Check.due("at 1", x.value(idle), 1);
    }

    private static void counter() {
        TernaryNet x = new TernaryNet();
        int b0 = x.gate(LATCH);
        int b1 = x.gate(LATCH);
        int b2 = x.gate(LATCH);
        x.feed(b0, b0, true);
        x.feed(b1, exclusive(x, b1, b0), false);
        int carry = x.gate(AND);
        x.feed(carry, b0, false);
        x.feed(carry, b1, false);
        x.feed(b2, exclusive(x, b2, carry), false);
        for (int i = 1; i <= 20; i++) {
            Check.due("bits that change", x.step(), Integer.bitCount((i - 1 & 7) ^ (i & 7)));
            Check.due("counted", x.value(b0) + 2 * x.value(b1) + 4 * x.value(b2), i & 7);
        }
    }

    private static int exclusive(TernaryNet x, int a, int b) {
        int left = x.gate(AND);
        int right = x.gate(AND);
        int or = x.gate(OR);
        x.feed(left, a, false);
        x.feed(left, b, true);
        x.feed(right, a, true);
        x.feed(right, b, false);
        x.feed(or, left, false);
        x.feed(or, right, false);
        return or;
    }

    private static void resets() {
        TernaryNet x = new TernaryNet();
        int input = x.gate(INPUT);
        for (int i = 0; i < 5; i++) {
            int latch = x.gate(LATCH);
            x.feed(latch, input, i % 2 == 1);
        }
        int or = x.gate(OR);
        x.feed(or, 1, false);
        Check.due("nothing to reset", x.reset(), 0);
        x.set(input, 1);
        Check.due("three change", x.step(), 3);
        Check.due("the or sees it", x.value(or), 1);
        Check.due("three were 1", x.reset(), 3);
        Check.due("none is 1", x.reset(), 0);
        Check.due("the or sees that", x.value(or), 0);
        Check.due("the input stays", x.value(input), 1);
        Check.due("the feeds stay", x.count(1), 6);
        x.step();
        x.set(input, 2);
        Check.due("a reset needs no settling", x.reset(), 3);
        Check.due("the unknown input stays", x.value(input), 2);
    }
}
