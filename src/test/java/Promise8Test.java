/** Promise 8: step. */
public final class Promise8Test {
    public static void main(String[] args) {
        Check.test("promise 8: 0 in an empty net", Promise8Test::emptyNet);
        Check.test("promise 8: 0 in a settled net without latches", Promise8Test::noLatches);
        Check.test("promise 8: 0 where each latch is what it would become", Promise8Test::nothingChanges);
        Check.test("promise 8: a latch without a feed stays, at 0 and at 1", Promise8Test::withoutFeed);
        Check.test("promise 8: the latches change at once, with and against the numbers", Promise8Test::atOnce);
        Check.test("promise 8: a latch of itself", Promise8Test::ofItself);
        Check.test("promise 8: answers how many changed, not how many there are", Promise8Test::counter);
        Check.test("promise 8: NONE and no change by an unknown input", Promise8Test::unknownInput);
        Check.test("promise 8: NONE and no change by an unknown cycle", Promise8Test::unknownCycle);
        Check.test("promise 8: NONE and no change by a latch's unknown next value", Promise8Test::unknownNext);
        Check.test("promise 8: inputs and feeds stay", Promise8Test::restStays);
        Check.test("promise 8: a step may take the net out of settling", Promise8Test::settlesNoMore);
        Check.test("promise 8: all of many latches change", Promise8Test::many);
        Check.end();
    }

    private static void emptyNet() {
        TernaryNet x = new TernaryNet();
        Check.due("step", x.step(), 0);
        Check.due("gates", x.count(0), 0);
    }

    private static void noLatches() {
        TernaryNet x = Nets.of(0, 2, 3);
        x.set(0, 1);
        Check.due("step", x.step(), 0);
    }

    private static void nothingChanges() {
        TernaryNet x = Nets.of(1, 1, 3, 2);
        x.feed(0, 2, false);
        x.feed(1, 3, false);
        Check.due("the first step", x.step(), 1);
        Check.due("the second step", x.step(), 0);
        Check.due("a 0 stays", x.value(0), 0);
        Check.due("a 1 stays", x.value(1), 1);
    }

    private static void withoutFeed() {
        TernaryNet x = Nets.of(1, 1, 2);
        x.feed(1, 2, false);
        Check.due("one changes", x.step(), 1);
        x.cut(1);
        Check.due("none changes", x.step(), 0);
        Check.due("a 0 stays", x.value(0), 0);
        Check.due("a 1 stays", x.value(1), 1);
        Check.due("it settles", x.count(7), 1);
    }

    private static void atOnce() {
        int n = 6;
        for (int way : new int[] {1, n - 1}) {
            TernaryNet x = Nets.of(1, 1, 1, 1, 1, 1, 2);
            x.feed(0, n, false);
            for (int i = 1; i < n; i++) {
                x.feed(i, (i + way) % n, false);
            }
            Check.due("a 1 goes in", x.step(), 1);
            x.cut(0);
            x.feed(0, way, false);
            int at = 0;
            for (int step = 0; step < 20; step++) {
                Check.due("the 1 goes on", x.step(), 2);
                at = (at + n - way) % n;
                for (int i = 0; i < n; i++) {
                    Check.due("latch " + i + " in step " + step, x.value(i), i == at ? 1 : 0);
                }
            }
        }
    }

    private static void ofItself() {
        TernaryNet x = Nets.of(1, 1);
        x.feed(0, 0, true);
        x.feed(1, 1, false);
        for (int i = 1; i <= 5; i++) {
            Check.due("step " + i, x.step(), 1);
            Check.due("turned", x.value(0), i % 2);
            Check.due("kept", x.value(1), 0);
        }
    }

    private static void counter() {
        TernaryNet x = Nets.of(1, 1, 1);
        x.feed(0, 0, true);
        x.feed(1, exclusive(x, 1, 0), false);
        int carry = x.gate(Nets.AND);
        x.feed(carry, 0, false);
        x.feed(carry, 1, false);
        x.feed(2, exclusive(x, 2, carry), false);
        for (int i = 1; i <= 20; i++) {
            Check.due("bits that change", x.step(), Integer.bitCount((i - 1 & 7) ^ (i & 7)));
            Check.due("counted", x.value(0) + 2 * x.value(1) + 4 * x.value(2), i & 7);
        }
    }

    private static int exclusive(TernaryNet x, int a, int b) {
        int left = x.gate(Nets.AND);
        int right = x.gate(Nets.AND);
        int or = x.gate(Nets.OR);
        x.feed(left, a, false);
        x.feed(left, b, true);
        x.feed(right, a, true);
        x.feed(right, b, false);
        x.feed(or, left, false);
        x.feed(or, right, false);
        return or;
    }

    private static void unknownInput() {
        TernaryNet x = Nets.of(1, 0);
        x.feed(0, 0, true);
        Check.none("the input feeds nothing", x, x::step);
        x.set(1, 0);
        Check.due("a known one", x.step(), 1);
        x.set(1, 2);
        Check.none("unknown again", x, x::step);
        Check.due("the latch", x.value(0), 1);
    }

    private static void unknownCycle() {
        TernaryNet x = Nets.of(1, 3);
        x.feed(0, 0, true);
        x.feed(1, 1, false);
        Check.none("the cycle feeds nothing", x, x::step);
        Check.due("the latch", x.value(0), 0);
        x.cut(1);
        Check.due("without the cycle", x.step(), 1);
    }

    private static void unknownNext() {
        TernaryNet x = Nets.of(1, 1, 0, 2);
        x.feed(0, 0, true);
        x.feed(1, 3, false);
        x.feed(3, 2, false);
        Check.none("the second latch's is unknown", x, x::step);
        Check.due("the first latch", x.value(0), 0);
        x.set(2, 1);
        Check.due("both", x.step(), 2);
    }

    private static void restStays() {
        TernaryNet x = Nets.of(0, 1, 2);
        x.set(0, 1);
        x.feed(2, 1, false);
        x.feed(1, 0, false);
        Check.due("before", x.value(2), 0);
        Check.due("step", x.step(), 1);
        Check.due("the input", x.value(0), 1);
        Check.due("the latch", x.value(1), 1);
        Check.due("what it feeds", x.value(2), 1);
        Check.due("feeds", x.count(1), 2);
        Check.due("gates", x.count(0), 3);
    }

    private static void settlesNoMore() {
        TernaryNet x = Nets.of(1, 2);
        x.feed(0, 0, true);
        x.feed(1, 1, false);
        x.feed(1, 0, false);
        Check.due("the 0 decides", x.step(), 1);
        Check.none("the 1 does not", x, x::step);
        Check.due("the latch stays", x.value(0), 1);
    }

    private static void many() {
        TernaryNet x = new TernaryNet();
        for (int i = 0; i < 200; i++) {
            x.gate(Nets.LATCH);
            x.feed(i, i, true);
        }
        Check.due("all", x.step(), 200);
        Check.due("the first", x.value(0), 1);
        Check.due("the last", x.value(199), 1);
        Check.due("all again", x.step(), 200);
        Check.due("the last then", x.value(199), 0);
    }
}
