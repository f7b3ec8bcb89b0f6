/** Promise 3: feed. */
public final class Promise3Test {
    public static void main(String[] args) {
        Check.test("promise 3: answers how many feeds the fed gate has", Promise3Test::counts);
        Check.test("promise 3: a gate may feed itself", Promise3Test::itself);
        Check.test("promise 3: the same gate may feed more than once", Promise3Test::oftener);
        Check.test("promise 3: ands and ors take any number of feeds", Promise3Test::anyNumber);
        Check.test("promise 3: a feed is taken as it is or negated", Promise3Test::negated);
        Check.test("promise 3: a feed is seen by what was asked before", Promise3Test::seenAtOnce);
        Check.test("promise 3: states and the other gates' feeds stay", Promise3Test::restStays);
        Check.test("promise 3: IndexOutOfBoundsException when to is not there", Promise3Test::noTo);
        Check.test("promise 3: IndexOutOfBoundsException when from is not there", Promise3Test::noFrom);
        Check.test("promise 3: IndexOutOfBoundsException when both are not there", Promise3Test::noBoth);
        Check.test("promise 3: IllegalStateException when to is an input", Promise3Test::inputFed);
        Check.test("promise 3: IllegalStateException when to is a latch with a feed", Promise3Test::latchFedTwice);
        Check.test("promise 3: a latch without a feed takes one, after a cut too", Promise3Test::latchFedOnce);
        Check.test("promise 3: a missing gate goes before a gate that takes no feed", Promise3Test::indexBeforeState);
        Check.test("promise 3: feed 2400 is taken, then NONE", Promise3Test::feedsEnd);
        Check.test("promise 3: the 2400 are counted over all gates", Promise3Test::feedsOfAllEnd);
        Check.test("promise 3: with 2400 feeds what could not be fed still throws", Promise3Test::throwsWhenFull);
        Check.test("promise 3: a cut makes room for as many feeds again", Promise3Test::roomAfterACut);
        Check.end();
    }

    private static void counts() {
        TernaryNet x = Nets.of(0, 1, 2, 3, 3);
        Check.due("an and's first", x.feed(2, 0, false), 1);
        Check.due("an or's first", x.feed(3, 2, true), 1);
        Check.due("an and's second", x.feed(2, 1, true), 2);
        Check.due("an or's second", x.feed(3, 4, false), 2);
        Check.due("a latch's first", x.feed(1, 3, false), 1);
        Check.due("an and's third", x.feed(2, 3, false), 3);
        Check.due("feeds in all", x.count(1), 6);
    }

    private static void itself() {
        for (int sort = 1; sort <= 3; sort++) {
            TernaryNet x = Nets.of(sort);
            Check.due("sort " + sort, x.feed(0, 0, false), 1);
            Check.due("feeds", x.count(1), 1);
        }
    }

    private static void oftener() {
        TernaryNet x = Nets.of(0, 2);
        Check.due("once", x.feed(1, 0, false), 1);
        Check.due("twice", x.feed(1, 0, false), 2);
        Check.due("and negated", x.feed(1, 0, true), 3);
        Check.due("and negated again", x.feed(1, 0, true), 4);
        Check.due("feeds", x.count(1), 4);
        x.set(0, 1);
        Check.due("a 1 and a 0", x.value(1), 0);
        Check.due("all go", x.cut(1), 4);
    }

    private static void anyNumber() {
        for (int sort = 2; sort <= 3; sort++) {
            TernaryNet x = Nets.of(1, sort);
            for (int i = 1; i <= 500; i++) {
                Check.due("feed " + i, x.feed(1, 0, sort == 2), i);
            }
            Check.due("value", x.value(1), sort == 2 ? 1 : 0);
        }
    }

    private static void negated() {
        TernaryNet x = Nets.of(1, 2, 3, 1, 1);
        x.feed(1, 0, false);
        x.feed(2, 0, true);
        x.feed(3, 0, false);
        x.feed(4, 0, true);
        Check.due("as it is", x.value(1), 0);
        Check.due("negated", x.value(2), 1);
        Check.due("step", x.step(), 1);
        Check.due("a latch as it is", x.value(3), 0);
        Check.due("a latch negated", x.value(4), 1);
    }

    private static void seenAtOnce() {
        TernaryNet x = Nets.of(2, 2);
        Check.due("value before", x.value(0), 1);
        Check.due("cycle before", x.cycle(0), Nets.NONE);
        x.feed(0, 1, false);
        x.feed(1, 0, true);
        Check.due("value", x.value(0), Nets.UNKNOWN);
        Check.due("cycle", x.cycle(1), 0);
    }

    private static void restStays() {
        for (int from = 0; from < 7; from++) {
            TernaryNet x = Nets.lively();
            Check.due("an and", x.feed(5, from, false), 4);
            Check.due("an or", x.feed(6, from, true), 3);
            Nets.livelyHolds("a feed from " + from, x);
            Nets.feedsWere("a feed from " + from, x, 0, 0, 0, 1, 1, 4, 3);
        }
        TernaryNet x = Nets.lively();
        x.cut(3);
        Check.due("a latch that is 1", x.feed(3, 1, false), 1);
        Nets.livelyHolds("a latch's feed", x);
    }

    private static void noTo() {
        Nets.indexOutside("feed to", (x, g) -> x.feed(g, 0, false));
    }

    private static void noFrom() {
        Nets.indexOutside("feed from", (x, g) -> x.feed(x.count(0) - 1, g, true));
    }

    private static void noBoth() {
        Nets.indexOutside("feed to and from", (x, g) -> x.feed(g, g, true));
    }

    private static void inputFed() {
        for (int from = 0; from < 4; from++) {
            int f = from;
            TernaryNet x = Nets.small();
            Check.state("feed(0, " + from + ", false)", x, () -> x.feed(0, f, false));
            Check.state("feed(0, " + from + ", true)", x, () -> x.feed(0, f, true));
            x.set(0, 1);
            Check.state("a known input", x, () -> x.feed(0, f, false));
            Check.due("it has none", x.cut(0), 0);
        }
    }

    private static void latchFedTwice() {
        for (int from = 0; from < 4; from++) {
            int f = from;
            TernaryNet x = Nets.small();
            Check.state("feed(1, " + from + ", false)", x, () -> x.feed(1, f, false));
            Check.state("feed(1, " + from + ", true)", x, () -> x.feed(1, f, true));
            Check.due("it has one", x.cut(1), 1);
        }
    }

    private static void latchFedOnce() {
        TernaryNet x = Nets.of(1, 1);
        Check.due("by itself", x.feed(0, 0, true), 1);
        Check.due("the other one", x.feed(1, 0, false), 1);
        Check.state("no second", x, () -> x.feed(0, 1, false));
        x.cut(0);
        Check.due("after a cut", x.feed(0, 1, false), 1);
        Check.state("no second then", x, () -> x.feed(0, 1, false));
    }

    private static void indexBeforeState() {
        for (int g : Nets.outside(Nets.small())) {
            TernaryNet x = Nets.small();
            Check.index("an input from " + g, x, () -> x.feed(0, g, false));
            Check.index("a fed latch from " + g, x, () -> x.feed(1, g, false));
        }
    }

    /** An input, a fed latch, a latch without a feed, an and, an or; the or has all feeds but one. */
    private static TernaryNet almostFull() {
        TernaryNet x = Nets.of(0, 1, 1, 2, 3);
        x.feed(1, 0, false);
        for (int i = 1; i <= 2398; i++) {
            Check.due("feed", x.feed(4, 3, true), i);
        }
        return x;
    }

    private static void feedsEnd() {
        TernaryNet x = almostFull();
        Check.due("feeds", x.count(1), 2399);
        Check.due("feed 2400", x.feed(4, 0, true), 2399);
        Check.due("feeds then", x.count(1), 2400);
        Check.none("an or's", x, () -> x.feed(4, 3, false));
        Check.none("an and's", x, () -> x.feed(3, 3, false));
        Check.none("a latch's", x, () -> x.feed(2, 3, true));
        Check.due("feeds still", x.count(1), 2400);
        Check.due("the last feed counts", x.value(4), Nets.UNKNOWN);
    }

    private static void feedsOfAllEnd() {
        TernaryNet x = new TernaryNet();
        for (int i = 0; i < 100; i++) {
            x.gate(2 + i % 2);
        }
        for (int i = 0; i < 2400; i++) {
            Check.due("feed " + i, x.feed(i % 100, 99 - i % 100, i % 3 == 0), i / 100 + 1);
        }
        for (int i = 0; i < 100; i++) {
            Check.due("feed of " + i, x.feed(i, i, false), Nets.NONE);
        }
        Check.due("feeds", x.count(1), 2400);
    }

    private static void throwsWhenFull() {
        TernaryNet x = almostFull();
        x.feed(4, 3, true);
        Check.state("an input", x, () -> x.feed(0, 3, false));
        Check.state("a latch with a feed", x, () -> x.feed(1, 3, false));
        for (int g : Nets.outside(x)) {
            Check.index("to " + g, x, () -> x.feed(g, 3, false));
            Check.index("from " + g, x, () -> x.feed(3, g, false));
            Check.index("an input from " + g, x, () -> x.feed(0, g, false));
        }
    }

    private static void roomAfterACut() {
        TernaryNet x = almostFull();
        Check.due("feed 2400", x.feed(3, 3, false), 1);
        Check.due("no more", x.feed(2, 3, false), Nets.NONE);
        Check.due("cut", x.cut(1), 1);
        Check.due("room for one", x.feed(2, 3, false), 1);
        Check.due("and no more", x.feed(1, 3, false), Nets.NONE);
        Check.due("cut of the or", x.cut(4), 2398);
        Check.due("feeds", x.count(1), 2);
        for (int i = 1; i <= 2398; i++) {
            Check.due("room for many", x.feed(4, 0, false), i);
        }
        Check.due("and then no more", x.feed(4, 0, false), Nets.NONE);
    }
}
