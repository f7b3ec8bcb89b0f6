/** Promise 13: count. */
public final class Promise13Test {
    public static void main(String[] args) {
        Check.test("promise 13: NONE for what is too small or too large", Promise13Test::others);
        Check.test("promise 13: the empty net", Promise13Test::emptyNet);
        Check.test("promise 13: 0 gates, to 600", Promise13Test::gates);
        Check.test("promise 13: 1 feeds, to 2400", Promise13Test::feeds);
        Check.test("promise 13: 2 inputs, to 12", Promise13Test::inputs);
        Check.test("promise 13: 3 latches, to 600", Promise13Test::latches);
        Check.test("promise 13: 4 unknown gates, none to all", Promise13Test::unknown);
        Check.test("promise 13: 5 rounds, beyond round 0 and without the one that adds nothing", Promise13Test::rounds);
        Check.test("promise 13: 6 cycle parts with a cycle only", Promise13Test::parts);
        Check.test("promise 13: 7 whether the net settles", Promise13Test::settles);
        Check.test("promise 13: 7 a latch without a feed settles", Promise13Test::latchWithoutFeed);
        Check.test("promise 13: all counts as a net grows", Promise13Test::growing);
        Check.test("promise 13: asking changes nothing", Promise13Test::asking);
        Check.end();
    }

    private static void others() {
        for (TernaryNet x : new TernaryNet[] {new TernaryNet(), Nets.small(), Nets.fullOfGates()}) {
            for (int what : new int[] {-1, -2, 8, 9, Integer.MAX_VALUE, Integer.MIN_VALUE}) {
                Check.none("count(" + what + ")", x, () -> x.count(what));
            }
        }
    }

    private static void emptyNet() {
        all("empty", new TernaryNet(), 0, 0, 0, 0, 0, 0, 0, 1);
    }

    private static void gates() {
        TernaryNet x = new TernaryNet();
        for (int i = 0; i < 600; i++) {
            Check.due("gates", x.count(0), i);
            x.gate(1 + i % 3);
        }
        Check.due("gates", x.count(0), 600);
        x.gate(Nets.AND);
        Check.due("gates after a refused one", x.count(0), 600);
    }

    private static void feeds() {
        TernaryNet x = Nets.of(0, 1, 2, 3);
        for (int i = 0; i < 2400; i++) {
            Check.due("feeds", x.count(1), i);
            x.feed(i == 0 ? 1 : 2 + i % 2, i % 4, i % 3 == 0);
        }
        Check.due("feeds", x.count(1), 2400);
        x.feed(2, 2, false);
        Check.due("feeds after a refused one", x.count(1), 2400);
        x.cut(1);
        Check.due("feeds after a cut", x.count(1), 2399);
    }

    private static void inputs() {
        TernaryNet x = new TernaryNet();
        for (int i = 0; i < 12; i++) {
            Check.due("inputs", x.count(2), i);
            x.gate(Nets.INPUT);
            x.gate(1 + i % 3);
        }
        Check.due("inputs", x.count(2), 12);
        x.gate(Nets.INPUT);
        Check.due("inputs after a refused one", x.count(2), 12);
        x.set(0, 1);
        Check.due("known inputs count too", x.count(2), 12);
    }

    private static void latches() {
        TernaryNet x = new TernaryNet();
        for (int i = 0; i < 600; i++) {
            Check.due("latches", x.count(3), i);
            x.gate(Nets.LATCH);
        }
        Check.due("latches", x.count(3), 600);
        x.gate(Nets.LATCH);
        Check.due("latches after a refused one", x.count(3), 600);
        x.feed(0, 1, false);
        Check.due("fed latches count too", x.count(3), 600);
        Check.due("of the small net", Nets.small().count(3), 1);
    }

    private static void unknown() {
        TernaryNet x = Nets.of(0, 0, 2, 3, 1);
        Check.due("inputs only", x.count(4), 2);
        x.feed(2, 0, false);
        x.feed(3, 2, false);
        Check.due("and what they feed", x.count(4), 4);
        x.feed(4, 0, false);
        Check.due("a latch's next value is no gate", x.count(4), 4);
        x.set(0, 1);
        Check.due("one input", x.count(4), 1);
        x.set(1, 0);
        Check.due("none", x.count(4), 0);
        x.set(0, 2);
        Check.due("some again", x.count(4), 3);
    }

    private static void rounds() {
        TernaryNet x = Nets.of(0, 1);
        x.set(0, 1);
        Check.due("round 0 alone", x.count(5), 0);
        x.gate(Nets.AND);
        Check.due("an and without feeds", x.count(5), 1);
        Check.due("one round for two gates", Nets.of(2, 3).count(5), 1);
        for (int i = 3; i < 100; i++) {
            x.gate(Nets.OR);
            x.feed(i, i - 1, true);
            Check.due("a chain", x.count(5), i - 1);
        }
        x.feed(50, 50, false);
        Check.due("a 1 passes an or of itself", x.count(5), 98);
        x.feed(51, 51, false);
        Check.due("a 0 stops there", x.count(5), 49);
        x.cut(2);
        x.feed(2, 2, false);
        Check.due("nothing is added", x.count(5), 0);
    }

    private static void parts() {
        TernaryNet x = Nets.of(0, 1, 2, 3, 2, 3);
        Check.due("gates without a cycle are none", x.count(6), 0);
        x.feed(1, 1, false);
        Check.due("a latch of itself is none", x.count(6), 0);
        x.feed(2, 2, false);
        Check.due("a gate of itself", x.count(6), 1);
        x.feed(2, 2, true);
        Check.due("twice of itself", x.count(6), 1);
        x.feed(3, 4, false);
        x.feed(4, 3, false);
        Check.due("a ring too", x.count(6), 2);
        x.feed(5, 5, false);
        Check.due("and another one", x.count(6), 3);
        x.feed(5, 4, false);
        x.feed(3, 5, false);
        Check.due("two joined", x.count(6), 2);
        x.cut(3);
        Check.due("apart again", x.count(6), 2);
        x.cut(5);
        Check.due("one left", x.count(6), 1);
        x.cut(2);
        Check.due("none left", x.count(6), 0);
    }

    private static void settles() {
        TernaryNet x = Nets.of(1, 2, 3);
        Check.due("all known", x.count(7), 1);
        x.gate(Nets.INPUT);
        Check.due("an unknown input", x.count(7), 0);
        x.set(3, 0);
        Check.due("a known one", x.count(7), 1);
        x.feed(1, 1, false);
        Check.due("an unknown gate", x.count(7), 0);
        x.feed(1, 3, false);
        Check.due("that is decided", x.count(7), 1);
        x.feed(0, 3, false);
        x.set(3, 2);
        Check.due("an unknown next value", x.count(7), 0);
    }

    private static void latchWithoutFeed() {
        TernaryNet x = Nets.of(1);
        Check.due("at 0", x.count(7), 1);
        x.feed(0, 0, true);
        x.step();
        x.cut(0);
        Check.due("at 1", x.count(7), 1);
    }

    private static void asking() {
        Nets.asking("count", (x, g) -> x.count(g) + x.count(7) + x.count(-1));
    }

    private static void growing() {
        TernaryNet x = Nets.of(0);
        all("an input", x, 1, 0, 1, 0, 1, 0, 0, 0);
        x.gate(Nets.LATCH);
        all("a latch", x, 2, 0, 1, 1, 1, 0, 0, 0);
        x.gate(Nets.AND);
        all("an and", x, 3, 0, 1, 1, 1, 1, 0, 0);
        x.gate(Nets.OR);
        x.feed(3, 2, true);
        all("an or", x, 4, 1, 1, 1, 1, 2, 0, 0);
        x.feed(2, 0, false);
        all("unknown feeds", x, 4, 2, 1, 1, 3, 0, 0, 0);
        x.feed(2, 2, false);
        x.feed(1, 2, false);
        all("a cycle", x, 4, 4, 1, 1, 3, 0, 1, 0);
        x.set(0, 0);
        all("a 0", x, 4, 4, 1, 1, 0, 2, 1, 1);
        x.set(0, 1);
        all("a 1", x, 4, 4, 1, 1, 2, 0, 1, 0);
        x.cut(2);
        all("a cut", x, 4, 2, 1, 1, 0, 2, 0, 1);
        x.set(0, 2);
        all("unknown again", x, 4, 2, 1, 1, 1, 2, 0, 0);
    }

    private static void all(String what, TernaryNet x, int... want) {
        for (int i = 0; i < want.length; i++) {
            Check.due(what + ": count(" + i + ")", x.count(i), want[i]);
        }
    }
}
