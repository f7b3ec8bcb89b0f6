/** Promise 11: cycle. */
public final class Promise11Test {
    private static final int NONE = Nets.NONE;

    public static void main(String[] args) {
        Check.test("promise 11: NONE without any feed", Promise11Test::noFeeds);
        Check.test("promise 11: NONE where feeds make no cycle", Promise11Test::noCycle);
        Check.test("promise 11: NONE before and behind a cycle", Promise11Test::besideACycle);
        Check.test("promise 11: what feeds a latch makes no cycle", Promise11Test::throughALatch);
        Check.test("promise 11: a latch or an input beside a cycle is none of its part", Promise11Test::besideALatch);
        Check.test("promise 11: a gate that feeds itself", Promise11Test::ownFeed);
        Check.test("promise 11: a cycle of two, gate 0 among them", Promise11Test::two);
        Check.test("promise 11: the least gate of the part, wherever the cycle begins", Promise11Test::leastOfARing);
        Check.test("promise 11: several parts, joined by one feed", Promise11Test::severalParts);
        Check.test("promise 11: rings that touch are one part", Promise11Test::touching);
        Check.test("promise 11: values do not matter", Promise11Test::knownOrNot);
        Check.test("promise 11: negated and repeated feeds are ways too", Promise11Test::negated);
        Check.test("promise 11: a cut breaks a cycle", Promise11Test::broken);
        Check.test("promise 11: a full net as one ring", Promise11Test::longestRing);
        Check.test("promise 11: a full net as many rings", Promise11Test::manyRings);
        Check.test("promise 11: a full net with all its feeds", Promise11Test::allFeeds);
        Check.test("promise 11: asking changes nothing", Promise11Test::asking);
        Check.test("promise 11: IndexOutOfBoundsException when the gate is not there", Promise11Test::outside);
        Check.end();
    }

    private static void parts(String what, TernaryNet x, int... want) {
        for (int i = 0; i < want.length; i++) {
            Check.due(what + ": cycle(" + i + ")", x.cycle(i), want[i]);
        }
    }

    private static void noFeeds() {
        parts("new gates", Nets.of(0, 1, 2, 3), NONE, NONE, NONE, NONE);
    }

    private static void noCycle() {
        TernaryNet x = Nets.of(0, 2, 3, 2);
        x.feed(1, 0, false);
        x.feed(2, 0, false);
        x.feed(3, 1, false);
        x.feed(3, 2, false);
        x.feed(2, 1, false);
        parts("a diamond", x, NONE, NONE, NONE, NONE);
        Check.due("no part", x.count(6), 0);
    }

    private static void besideACycle() {
        TernaryNet x = Nets.of(2, 3, 2, 3);
        x.feed(1, 0, false);
        x.feed(1, 2, false);
        x.feed(2, 1, false);
        x.feed(3, 2, false);
        parts("beside", x, NONE, 1, 1, NONE);
    }

    private static void throughALatch() {
        TernaryNet x = Nets.of(0, 1, 2, 1);
        x.feed(1, 2, false);
        x.feed(2, 1, false);
        x.feed(2, 0, false);
        x.feed(3, 3, true);
        parts("through a latch", x, NONE, NONE, NONE, NONE);
        Check.due("no part", x.count(6), 0);
    }

    private static void besideALatch() {
        TernaryNet x = Nets.of(0, 1, 2, 3, 1);
        x.feed(2, 3, false);
        x.feed(3, 2, false);
        x.feed(2, 0, false);
        x.feed(3, 1, false);
        x.feed(1, 2, false);
        x.feed(4, 3, true);
        x.feed(2, 4, false);
        parts("a latch on a second way round", x, NONE, NONE, 2, 2, NONE);
        Check.due("one part", x.count(6), 1);
    }

    private static void ownFeed() {
        TernaryNet x = Nets.of(3, 2);
        x.feed(0, 1, false);
        x.feed(1, 1, true);
        parts("one of itself", x, NONE, 1);
        x.feed(0, 0, false);
        parts("both of themselves", x, 0, 1);
        x.cut(1);
        parts("one left", x, 0, NONE);
    }

    private static void two() {
        TernaryNet x = Nets.of(2, 3);
        x.feed(0, 1, false);
        parts("one way", x, NONE, NONE);
        x.feed(1, 0, false);
        parts("both ways", x, 0, 0);
    }

    private static void leastOfARing() {
        int n = 7;
        for (int start = 0; start < n; start++) {
            TernaryNet x = Nets.of(1, 2, 3, 2, 3, 2, 3, 2, 1);
            for (int i = 0; i < n; i++) {
                int at = 1 + (start + 3 * i) % n;
                x.feed(at, 1 + (start + 3 * i + 3) % n, false);
            }
            parts("ring from " + start, x, NONE, 1, 1, 1, 1, 1, 1, 1, NONE);
        }
    }

    private static void severalParts() {
        TernaryNet x = Nets.of(2, 3, 2, 3, 2, 3, 2, 3);
        x.feed(7, 2, false);
        x.feed(2, 7, true);
        x.feed(3, 7, false);
        x.feed(5, 3, false);
        x.feed(1, 5, false);
        x.feed(6, 1, false);
        x.feed(5, 6, false);
        x.feed(0, 6, false);
        x.feed(4, 4, false);
        parts("several", x, NONE, 1, 2, NONE, 4, 1, 1, 2);
        x.feed(2, 0, false);
        parts("joined", x, 0, 0, 0, 0, 4, 0, 0, 0);
    }

    private static void touching() {
        TernaryNet x = Nets.of(3, 3, 3, 3, 3);
        x.feed(4, 3, false);
        x.feed(3, 4, false);
        x.feed(2, 3, false);
        x.feed(3, 2, false);
        x.feed(1, 2, false);
        parts("touching", x, NONE, NONE, 2, 2, 2);
    }

    private static void knownOrNot() {
        for (int v = 0; v <= 2; v++) {
            TernaryNet x = Nets.of(0, 3);
            x.feed(1, 0, false);
            x.feed(1, 1, false);
            x.set(0, v);
            parts("with " + v, x, NONE, 1);
        }
    }

    private static void negated() {
        TernaryNet x = Nets.of(2, 3, 2);
        x.feed(1, 2, true);
        x.feed(1, 2, true);
        x.feed(2, 1, true);
        x.feed(2, 1, false);
        parts("negated", x, NONE, 1, 1);
        Check.due("one part", x.count(6), 1);
    }

    private static void broken() {
        TernaryNet x = Nets.of(2, 3, 2);
        x.feed(0, 1, false);
        x.feed(1, 2, false);
        x.feed(2, 0, false);
        parts("whole", x, 0, 0, 0);
        x.cut(1);
        parts("broken", x, NONE, NONE, NONE);
        x.feed(1, 0, false);
        parts("a shorter one", x, 0, 0, NONE);
    }

    private static void longestRing() {
        for (int way : new int[] {1, 599}) {
            TernaryNet x = ands(600);
            for (int i = 0; i < 600; i++) {
                x.feed(i, (i + way) % 600, true);
            }
            for (int i = 0; i < 600; i++) {
                Check.due("cycle(" + i + ")", x.cycle(i), 0);
            }
            Check.due("one part", x.count(6), 1);
            x.cut(300);
            Check.due("broken", x.cycle(599), NONE);
            Check.due("no part", x.count(6), 0);
        }
    }

    private static void manyRings() {
        TernaryNet x = ands(600);
        for (int i = 0; i < 600; i++) {
            x.feed(i, 599 - i, false);
        }
        for (int i = 0; i < 600; i++) {
            Check.due("cycle(" + i + ")", x.cycle(i), Math.min(i, 599 - i));
        }
        Check.due("parts", x.count(6), 300);
    }

    // The walk from one gate must follow every one of the 2400 feeds and leave all 600 gates.
    private static void allFeeds() {
        TernaryNet x = ands(600);
        for (int i = 0; i < 600; i++) {
            x.feed(i, (i + 1) % 600, false);
            x.feed(i, (i + 599) % 600, false);
            x.feed(i, i, false);
            x.feed(i, 0, false);
        }
        Check.due("feeds", x.count(1), 2400);
        for (int i = 0; i < 600; i++) {
            Check.due("cycle(" + i + ")", x.cycle(i), 0);
        }
        Check.due("one part", x.count(6), 1);
    }

    private static TernaryNet ands(int n) {
        TernaryNet x = new TernaryNet();
        for (int i = 0; i < n; i++) {
            x.gate(Nets.AND);
        }
        return x;
    }

    private static void asking() {
        Nets.asking("cycle", (x, g) -> x.cycle(g));
    }

    private static void outside() {
        Nets.indexOutside("cycle", (x, g) -> x.cycle(g));
    }
}
