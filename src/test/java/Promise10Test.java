/** Promise 10: blame. */
public final class Promise10Test {
    public static void main(String[] args) {
        Check.test("promise 10: NONE when the gate is known", Promise10Test::known);
        Check.test("promise 10: NONE for a known gate with an unknown feed", Promise10Test::knownAllTheSame);
        Check.test("promise 10: NONE for a latch, whatever feeds it", Promise10Test::latch);
        Check.test("promise 10: an unknown input blames itself", Promise10Test::input);
        Check.test("promise 10: the least of the unknown feeds, in any order", Promise10Test::least);
        Check.test("promise 10: only gates that feed it are blamed", Promise10Test::onlyFeeds);
        Check.test("promise 10: known feeds are not blamed", Promise10Test::knownFeeds);
        Check.test("promise 10: a gate that feeds itself", Promise10Test::ofItself);
        Check.test("promise 10: gate 0 can be blamed", Promise10Test::gateZero);
        Check.test("promise 10: negated and repeated feeds are blamed too", Promise10Test::negated);
        Check.test("promise 10: asking changes nothing", Promise10Test::asking);
        Check.test("promise 10: IndexOutOfBoundsException when the gate is not there", Promise10Test::outside);
        Check.end();
    }

    private static void known() {
        TernaryNet x = Nets.of(0, 1, 2, 3);
        x.set(0, 1);
        x.feed(2, 0, false);
        x.feed(3, 1, false);
        for (int g = 0; g < 4; g++) {
            Check.due("blame(" + g + ")", x.blame(g), Nets.NONE);
        }
    }

    private static void knownAllTheSame() {
        TernaryNet x = Nets.of(0, 1, 2, 3);
        x.feed(2, 0, false);
        x.feed(2, 1, false);
        x.feed(3, 0, false);
        x.feed(3, 1, true);
        Check.due("an and by its 0", x.blame(2), Nets.NONE);
        Check.due("an or by its 1", x.blame(3), Nets.NONE);
    }

    private static void latch() {
        TernaryNet x = Nets.of(0, 1, 1);
        x.feed(1, 0, false);
        Check.due("fed by an unknown input", x.blame(1), Nets.NONE);
        Check.due("not fed", x.blame(2), Nets.NONE);
    }

    private static void input() {
        TernaryNet x = Nets.of(3, 0, 0);
        Check.due("blame(1)", x.blame(1), 1);
        Check.due("blame(2)", x.blame(2), 2);
        x.set(1, 0);
        Check.due("known", x.blame(1), Nets.NONE);
        x.set(1, 2);
        Check.due("unknown again", x.blame(1), 1);
    }

    private static void least() {
        int[][] orders = {{1, 2, 3}, {1, 3, 2}, {2, 1, 3}, {2, 3, 1}, {3, 1, 2}, {3, 2, 1}};
        for (int[] order : orders) {
            for (int sort = 2; sort <= 3; sort++) {
                int passing = sort == Nets.AND ? 1 : 0;
                TernaryNet x = Nets.of(1, 0, 0, 0, sort);
                for (int from : order) {
                    x.feed(4, from, false);
                }
                Check.due("of three", x.blame(4), 1);
                x.set(1, passing);
                Check.due("of two", x.blame(4), 2);
                x.set(2, passing);
                Check.due("of one", x.blame(4), 3);
                x.set(3, passing);
                Check.due("of none", x.blame(4), Nets.NONE);
            }
        }
    }

    private static void onlyFeeds() {
        TernaryNet x = Nets.of(0, 0, 2, 3);
        x.feed(2, 1, false);
        x.feed(3, 2, false);
        Check.due("its feed, not the input behind it", x.blame(3), 2);
        Check.due("not the unknown input 0", x.blame(2), 1);
    }

    private static void knownFeeds() {
        TernaryNet x = Nets.of(1, 2, 0, 3);
        x.feed(3, 0, false);
        x.feed(3, 1, true);
        x.feed(3, 2, false);
        Check.due("neither the latch nor the and", x.blame(3), 2);
    }

    private static void ofItself() {
        TernaryNet x = Nets.of(2, 0, 3);
        x.feed(2, 2, true);
        Check.due("itself", x.blame(2), 2);
        x.feed(2, 1, false);
        Check.due("a lesser one", x.blame(2), 1);
        x.set(1, 0);
        Check.due("itself again", x.blame(2), 2);
        x.set(1, 1);
        Check.due("known", x.blame(2), Nets.NONE);
    }

    private static void gateZero() {
        TernaryNet x = Nets.of(0, 0, 2);
        x.feed(2, 1, false);
        x.feed(2, 0, false);
        Check.due("an input", x.blame(0), 0);
        Check.due("an and", x.blame(2), 0);
        TernaryNet own = Nets.of(2);
        own.feed(0, 0, false);
        Check.due("of itself", own.blame(0), 0);
    }

    private static void negated() {
        TernaryNet x = Nets.of(0, 0, 2, 3);
        x.feed(2, 1, true);
        x.feed(2, 1, true);
        x.feed(3, 1, false);
        x.feed(3, 0, true);
        x.feed(3, 1, false);
        Check.due("negated twice", x.blame(2), 1);
        Check.due("negated between", x.blame(3), 0);
    }

    private static void asking() {
        Nets.asking("blame", (x, g) -> x.blame(g));
    }

    private static void outside() {
        Nets.indexOutside("blame", (x, g) -> x.blame(g));
    }
}
