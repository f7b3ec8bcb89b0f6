/** Promise 11 and the cycle parts of promise 13. */
public final class CycleTest {
    private static final int INPUT = 0;
    private static final int LATCH = 1;
    private static final int AND = 2;
    private static final int OR = 3;
    private static final int NONE = TernaryNet.NONE;

    public static void main(String[] args) {
        latchesBreakCycles();
        ownFeed();
        severalParts();
        twoRingsThatTouch();
        longRing();
        knownOrNot();
        outside();
        Check.end();
    }

    private static void parts(String what, TernaryNet x, int... want) {
        for (int i = 0; i < want.length; i++) {
            Check.due(what + ": cycle(" + i + ")", x.cycle(i), want[i]);
        }
    }

    private static void latchesBreakCycles() {
        TernaryNet x = new TernaryNet();
        x.gate(INPUT);
        x.gate(LATCH);
        x.gate(AND);
        x.gate(LATCH);
        x.feed(1, 2, false);
        x.feed(2, 1, false);
        x.feed(2, 0, false);
        x.feed(3, 3, true);
        parts("through a latch", x, NONE, NONE, NONE, NONE);
        Check.due("no parts", x.count(6), 0);
    }

    private static void ownFeed() {
        TernaryNet x = new TernaryNet();
        x.gate(OR);
        x.gate(AND);
        x.feed(0, 1, false);
        x.feed(1, 1, true);
        parts("itself", x, NONE, 1);
        Check.due("one part", x.count(6), 1);
        x.feed(0, 0, false);
        parts("both", x, 0, 1);
        Check.due("two parts", x.count(6), 2);
        x.cut(1);
        parts("one left", x, 0, NONE);
        Check.due("one part left", x.count(6), 1);
    }

    private static void severalParts() {
        TernaryNet x = new TernaryNet();
        for (int i = 0; i < 8; i++) {
            x.gate(i % 2 == 0 ? AND : OR);
        }
        x.feed(7, 2, false);
        x.feed(2, 7, true);
        x.feed(3, 7, false);
        x.feed(5, 3, false);
        x.feed(1, 5, false);
        x.feed(6, 1, false);
        x.feed(5, 6, false);
        x.feed(0, 6, false);
        x.feed(4, 4, false);
        parts("several", x, NONE, 1, 2, NONE, 4, 1, 1, 2);
        Check.due("three parts", x.count(6), 3);
        x.feed(2, 0, false);
        parts("joined", x, 0, 0, 0, 0, 4, 0, 0, 0);
        Check.due("two parts", x.count(6), 2);
        x.feed(2, 0, false);
        Check.due("doubled feeds", x.count(6), 2);
    }

    private static void twoRingsThatTouch() {
        TernaryNet x = new TernaryNet();
        for (int i = 0; i < 5; i++) {
            x.gate(OR);
        }
        x.feed(4, 3, false);
        x.feed(3, 4, false);
        x.feed(2, 3, false);
        x.feed(3, 2, false);
        x.feed(1, 2, false);
        parts("touching", x, NONE, NONE, 2, 2, 2);
        Check.due("one part", x.count(6), 1);
    }

    private static void longRing() {
        TernaryNet x = new TernaryNet();
        int n = 600;
        for (int i = 0; i < n; i++) {
            x.gate(AND);
        }
        for (int i = 0; i < n; i++) {
            x.feed(i, (i * 7 + 11) % n, false);
        }
        // i -> 7 i + 11 permutes 0 .. 599, so every gate is on one ring.
        boolean[] least = new boolean[n];
        int rings = 0;
        for (int i = 0; i < n; i++) {
            int min = i;
            for (int j = (i * 7 + 11) % n; j != i; j = (j * 7 + 11) % n) {
                min = Math.min(min, j);
            }
            Check.due("ring of " + i, x.cycle(i), min);
            if (!least[min]) {
                least[min] = true;
                rings++;
            }
        }
        Check.due("rings", x.count(6), rings);
        TernaryNet one = new TernaryNet();
        for (int i = 0; i < n; i++) {
            one.gate(OR);
        }
        for (int i = 0; i < n; i++) {
            one.feed(i, (i + n - 1) % n, true);
        }
        Check.due("one ring", one.cycle(n - 1), 0);
        Check.due("one part", one.count(6), 1);
        one.cut(300);
        Check.due("a broken ring", one.cycle(n - 1), NONE);
        Check.due("no part", one.count(6), 0);
        Check.due("it settles", one.count(7), 1);
    }

    private static void knownOrNot() {
        TernaryNet x = new TernaryNet();
        x.gate(INPUT);
        x.gate(OR);
        x.feed(1, 0, false);
        x.feed(1, 1, false);
        Check.due("unknown", x.cycle(1), 1);
        x.set(0, 1);
        Check.due("known", x.cycle(1), 1);
        Check.due("the input", x.cycle(0), NONE);
        Check.due("a new gate", x.cycle(x.gate(AND)), NONE);
    }

    private static void outside() {
        TernaryNet x = new TernaryNet();
        x.gate(AND);
        for (int g : new int[] {-1, 1, 600, Integer.MAX_VALUE, Integer.MIN_VALUE}) {
            Check.index("cycle(" + g + ")", () -> x.cycle(g));
        }
    }
}
