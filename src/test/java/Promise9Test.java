/** Promise 9: reset. */
public final class Promise9Test {
    public static void main(String[] args) {
        Check.test("promise 9: 0 in an empty net", Promise9Test::emptyNet);
        Check.test("promise 9: 0 without latches", Promise9Test::noLatches);
        Check.test("promise 9: 0 where all latches are 0", Promise9Test::noOnes);
        Check.test("promise 9: answers how many were 1, and all are 0", Promise9Test::someOnes);
        Check.test("promise 9: a latch without a feed is reset too", Promise9Test::withoutFeed);
        Check.test("promise 9: a net that does not settle is reset too", Promise9Test::unsettled);
        Check.test("promise 9: inputs and feeds stay", Promise9Test::restStays);
        Check.test("promise 9: a reset is seen by what was asked before", Promise9Test::seenAtOnce);
        Check.test("promise 9: all of many latches", Promise9Test::many);
        Check.end();
    }

    private static void emptyNet() {
        Check.due("reset", new TernaryNet().reset(), 0);
    }

    private static void noLatches() {
        TernaryNet x = Nets.of(0, 2, 3);
        x.set(0, 1);
        Check.due("reset", x.reset(), 0);
        Check.due("the input", x.value(0), 1);
        Check.due("the and", x.value(1), 1);
    }

    private static void noOnes() {
        TernaryNet x = Nets.of(1, 1);
        Check.due("reset", x.reset(), 0);
        Check.due("again", x.reset(), 0);
    }

    /** Five latches: the first, third and fifth are 1. */
    private static TernaryNet threeOfFive() {
        TernaryNet x = Nets.of(1, 1, 1, 1, 1, 2);
        for (int i = 0; i < 5; i++) {
            x.feed(i, 5, i % 2 == 1);
        }
        Check.due("three change", x.step(), 3);
        return x;
    }

    private static void someOnes() {
        TernaryNet x = threeOfFive();
        Check.due("reset", x.reset(), 3);
        for (int i = 0; i < 5; i++) {
            Check.due("latch " + i, x.value(i), 0);
        }
        Check.due("again", x.reset(), 0);
        Check.due("a step", x.step(), 3);
        Check.due("reset after it", x.reset(), 3);
    }

    private static void withoutFeed() {
        TernaryNet x = threeOfFive();
        x.cut(0);
        x.cut(4);
        Check.due("reset", x.reset(), 3);
        Check.due("the first", x.value(0), 0);
        Check.due("the last", x.value(4), 0);
    }

    private static void unsettled() {
        TernaryNet x = threeOfFive();
        x.gate(Nets.INPUT);
        x.feed(5, 5, false);
        Check.due("it does not settle", x.count(7), 0);
        Check.due("reset", x.reset(), 3);
        Check.due("the first", x.value(0), 0);
    }

    private static void restStays() {
        for (int v = 0; v <= 2; v++) {
            TernaryNet x = threeOfFive();
            x.gate(Nets.INPUT);
            x.set(6, v);
            x.reset();
            Check.due("the input", x.value(6), v);
            Check.due("the and", x.value(5), 1);
            Check.due("feeds", x.count(1), 5);
            Check.due("gates", x.count(0), 7);
            Check.due("latches", x.count(3), 5);
        }
    }

    private static void seenAtOnce() {
        TernaryNet x = threeOfFive();
        x.gate(Nets.OR);
        x.feed(6, 0, false);
        Check.due("before", x.value(6), 1);
        x.reset();
        Check.due("after", x.value(6), 0);
    }

    private static void many() {
        TernaryNet x = new TernaryNet();
        for (int i = 0; i < 200; i++) {
            x.gate(Nets.LATCH);
            x.feed(i, i, true);
        }
        Check.due("step", x.step(), 200);
        Check.due("reset", x.reset(), 200);
        Check.due("the first", x.value(0), 0);
        Check.due("the last", x.value(199), 0);
    }
}
