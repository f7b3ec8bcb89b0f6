/** Promise 12: choices. */
public final class ChoicesTest {
    private static final int INPUT = 0;
    private static final int LATCH = 1;
    private static final int AND = 2;
    private static final int OR = 3;

    public static void main(String[] args) {
        powersOfTwo();
        oneThatFails();
        latchesCount();
        changesNothing();
        againstTheOrder();
        Check.end();
    }

    private static void powersOfTwo() {
        TernaryNet x = new TernaryNet();
        for (int i = 0; i <= 12; i++) {
            Check.due("choices of " + i + " inputs", x.choices(), 1 << i);
            if (i < 12) {
                x.gate(INPUT);
            }
        }
        for (int i = 0; i < 12; i++) {
            x.set(11 - i, i % 2);
            Check.due("choices of " + (11 - i) + " free inputs", x.choices(), 1 << (11 - i));
        }
        int and = x.gate(AND);
        x.feed(and, and, false);
        Check.due("one that never settles", x.choices(), 0);
    }

    /** A gate that feeds itself and is known unless the first n inputs stand just so. */
    private static void oneThatFails() {
        for (int n = 1; n <= 12; n++) {
            for (int just = 0; just < 1 << n; just += 1 + just / 3) {
                TernaryNet x = new TernaryNet();
                int or = x.gate(OR);
                x.feed(or, or, true);
                for (int i = 0; i < n; i++) {
                    x.feed(or, x.gate(INPUT), (just >> i & 1) == 1);
                }
                Check.due("all but one of " + n, x.choices(), (1 << n) - 1);
                x.set(1, 1 - (just & 1));
                Check.due("all of the other half", x.choices(), 1 << (n - 1));
                x.set(1, just & 1);
                Check.due("all but one of the half", x.choices(), (1 << (n - 1)) - 1);
            }
        }
    }

    private static void latchesCount() {
        TernaryNet x = new TernaryNet();
        int latch = x.gate(LATCH);
        int input = x.gate(INPUT);
        int and = x.gate(AND);
        x.feed(latch, latch, true);
        x.feed(and, and, false);
        x.feed(and, latch, false);
        x.feed(and, input, false);
        Check.due("the latch is 0", x.choices(), 2);
        x.set(input, 0);
        Check.due("a step", x.step(), 1);
        x.set(input, 2);
        Check.due("the latch is 1", x.choices(), 1);
        x.reset();
        Check.due("the latch is 0 again", x.choices(), 2);
    }

    private static void changesNothing() {
        TernaryNet x = new TernaryNet();
        int a = x.gate(INPUT);
        int b = x.gate(INPUT);
        int or = x.gate(OR);
        x.feed(or, a, false);
        x.feed(or, b, false);
        x.set(b, 0);
        Check.due("choices", x.choices(), 2);
        Check.due("the free input", x.value(a), 2);
        Check.due("the other one", x.value(b), 0);
        Check.due("the or", x.value(or), 2);
        Check.due("no rounds", x.count(5), 0);
        Check.due("choices again", x.choices(), 2);
        x.set(a, 1);
        Check.due("no free input", x.choices(), 1);
        Check.due("the or then", x.value(or), 1);
    }

    /** What is known has to go through a two-way chain from either end, or from the middle. */
    private static void againstTheOrder() {
        int n = 80;
        for (int start : new int[] {0, n / 2, n - 1}) {
            TernaryNet x = new TernaryNet();
            for (int i = 0; i < n; i++) {
                x.gate(i % 3 == 0 ? AND : OR);
            }
            for (int i = 0; i < n; i++) {
                // Where this feed is open, an and takes the chain's 0 and an or, by negation, its 1.
                boolean one = i % 3 != 0;
                if (i > 0) {
                    x.feed(i, i - 1, one != ((i - 1) % 3 != 0));
                }
                if (i < n - 1) {
                    x.feed(i, i + 1, one != ((i + 1) % 3 != 0));
                }
            }
            for (int i = 0; i < 12; i++) {
                x.feed(start, x.gate(INPUT), start % 3 != 0);
            }
            Check.due("all but all ones", x.choices(), 4095);
        }
    }
}
