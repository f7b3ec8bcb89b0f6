/** Promise 4: cut. */
public final class Promise4Test {
    public static void main(String[] args) {
        Check.test("promise 4: all feeds of a gate go, and it answers how many", Promise4Test::allGo);
        Check.test("promise 4: 0 where there is no feed", Promise4Test::nothingToCut);
        Check.test("promise 4: what a gate feeds stays", Promise4Test::outgoingStay);
        Check.test("promise 4: feeds of itself go", Promise4Test::ownGo);
        Check.test("promise 4: a cut and or or is as one without feeds", Promise4Test::asNew);
        Check.test("promise 4: a cut latch keeps its state", Promise4Test::latchKeeps);
        Check.test("promise 4: states and the other gates' feeds stay", Promise4Test::restStays);
        Check.test("promise 4: a cut is seen by what was asked before", Promise4Test::seenAtOnce);
        Check.test("promise 4: 2400 feeds of one gate go at once", Promise4Test::most);
        Check.test("promise 4: IndexOutOfBoundsException when the gate is not there", Promise4Test::outside);
        Check.end();
    }

    private static void allGo() {
        TernaryNet x = Nets.small();
        Check.due("feeds before", x.count(1), 5);
        Check.due("an and's", x.cut(2), 2);
        Check.due("feeds then", x.count(1), 3);
        Check.due("a latch's", x.cut(1), 1);
        Check.due("feeds then", x.count(1), 2);
        Check.due("an or's", x.cut(3), 2);
        Check.due("feeds then", x.count(1), 0);
        Check.due("gates still", x.count(0), 4);
    }

    private static void nothingToCut() {
        TernaryNet x = Nets.of(0, 1, 2, 3);
        for (int g = 0; g < 4; g++) {
            Check.due("a new gate", x.cut(g), 0);
        }
        x.feed(2, 0, false);
        x.feed(2, 2, false);
        Check.due("the first time", x.cut(2), 2);
        Check.due("the second time", x.cut(2), 0);
        Check.due("an input that feeds", x.cut(0), 0);
        Check.due("feeds", x.count(1), 0);
        x.set(0, 1);
        x.cut(0);
        Check.due("the input's value stays", x.value(0), 1);
    }

    private static void outgoingStay() {
        TernaryNet x = Nets.of(2, 3, 1);
        x.feed(1, 0, true);
        x.feed(2, 0, false);
        x.feed(0, 0, false);
        Check.due("cut", x.cut(0), 1);
        Check.due("feeds", x.count(1), 2);
        Check.due("the or has one", x.feed(1, 1, false), 2);
        Check.due("the latch has one", x.cut(2), 1);
    }

    private static void ownGo() {
        TernaryNet x = Nets.of(3);
        x.feed(0, 0, false);
        x.feed(0, 0, true);
        Check.due("cycle before", x.cycle(0), 0);
        Check.due("cut", x.cut(0), 2);
        Check.due("cycle", x.cycle(0), Nets.NONE);
        Check.due("parts", x.count(6), 0);
    }

    private static void asNew() {
        TernaryNet x = Nets.of(0, 2, 3);
        x.feed(1, 0, false);
        x.feed(2, 0, false);
        Check.due("unknown before", x.count(4), 3);
        x.cut(1);
        x.cut(2);
        Check.due("and", x.value(1), 1);
        Check.due("or", x.value(2), 0);
        Check.due("and's round", x.round(1), 1);
        Check.due("or's round", x.round(2), 1);
        Check.due("an and's next feed is its first", x.feed(1, 0, false), 1);
    }

    private static void latchKeeps() {
        TernaryNet x = Nets.of(1);
        x.feed(0, 0, true);
        Check.due("step", x.step(), 1);
        Check.due("cut", x.cut(0), 1);
        Check.due("state", x.value(0), 1);
        Check.due("step without a feed", x.step(), 0);
        Check.due("state then", x.value(0), 1);
    }

    private static void restStays() {
        int[] had = {0, 0, 0, 1, 1, 3, 2};
        for (int g = 0; g < had.length; g++) {
            TernaryNet x = Nets.lively();
            Check.due("cut(" + g + ")", x.cut(g), had[g]);
            Nets.livelyHolds("cut(" + g + ")", x);
            int[] left = had.clone();
            left[g] = 0;
            Nets.feedsWere("after cut(" + g + ")", x, left);
        }
    }

    private static void seenAtOnce() {
        TernaryNet x = Nets.small();
        Check.due("settles before", x.count(7), 0);
        Check.due("parts before", x.count(6), 1);
        x.set(0, 0);
        Check.due("unknown before", x.count(4), 1);
        x.cut(3);
        Check.due("settles", x.count(7), 1);
        Check.due("parts", x.count(6), 0);
    }

    private static void most() {
        TernaryNet x = Nets.of(2, 3);
        for (int i = 0; i < 2400; i++) {
            x.feed(0, i % 2, false);
        }
        Check.due("cut", x.cut(0), 2400);
        Check.due("feeds", x.count(1), 0);
        Check.due("value", x.value(0), 1);
    }

    private static void outside() {
        Nets.indexOutside("cut", (x, g) -> x.cut(g));
    }
}
