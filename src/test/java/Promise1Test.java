/** Promise 1: a new object has no gates. */
public final class Promise1Test {
    public static void main(String[] args) {
        Check.test("promise 1: no gates, no feeds, nothing unknown", Promise1Test::allCountsAreZero);
        Check.test("promise 1: a net without gates settles", Promise1Test::settles);
        Check.test("promise 1: no number is a gate's", Promise1Test::noGateIsThere);
        Check.test("promise 1: the first gate is 0", Promise1Test::firstGate);
        Check.test("promise 1: objects know nothing of each other", Promise1Test::objectsAreApart);
        Check.test("promise 1: it answers as due to its 512th call", Promise1Test::lastCalls);
        Check.end();
    }

    private static void allCountsAreZero() {
        for (int what = 0; what <= 6; what++) {
            Check.due("count(" + what + ")", new TernaryNet().count(what), 0);
        }
    }

    private static void settles() {
        Check.due("count(7)", new TernaryNet().count(7), 1);
        Check.due("step()", new TernaryNet().step(), 0);
        Check.due("reset()", new TernaryNet().reset(), 0);
        Check.due("choices()", new TernaryNet().choices(), 1);
    }

    private static void noGateIsThere() {
        for (int g : new int[] {0, 1, -1, 599, 600, Integer.MAX_VALUE, Integer.MIN_VALUE}) {
            TernaryNet x = new TernaryNet();
            Check.index("value(" + g + ")", x, () -> x.value(g));
            Check.index("round(" + g + ")", x, () -> x.round(g));
            Check.index("blame(" + g + ")", x, () -> x.blame(g));
            Check.index("cycle(" + g + ")", x, () -> x.cycle(g));
            Check.index("cut(" + g + ")", x, () -> x.cut(g));
            Check.index("set(" + g + ", 0)", x, () -> x.set(g, 0));
            Check.index("feed(" + g + ", " + g + ", false)", x, () -> x.feed(g, g, false));
        }
    }

    private static void firstGate() {
        for (int sort = 0; sort <= 3; sort++) {
            Check.due("gate(" + sort + ")", new TernaryNet().gate(sort), 0);
        }
    }

    // 2 calls make the net; of the other 510 each step turns the latch.
    private static void lastCalls() {
        TernaryNet x = new TernaryNet();
        Check.due("call 1", x.gate(Nets.LATCH), 0);
        Check.due("call 2", x.feed(0, 0, true), 1);
        for (int call = 3; call <= 511; call += 2) {
            Check.due("call " + call, x.step(), 1);
            Check.due("call " + (call + 1), x.value(0), (call - 1) / 2 % 2);
        }
    }

    private static void objectsAreApart() {
        TernaryNet x = new TernaryNet();
        TernaryNet other = Nets.small();
        Check.due("count(0)", x.count(0), 0);
        Check.due("count(1)", x.count(1), 0);
        x.gate(Nets.INPUT);
        x.set(0, 1);
        Check.due("the other's input", other.value(0), Nets.UNKNOWN);
        Check.due("the other's gates", other.count(0), 4);
    }
}
