/** All promises: long mixed runs, answer by answer as PlainNet gives them. */
public final class CompareTest {
    private static final int CALLS = 512;

    private long seed;
    private final TernaryNet x = new TernaryNet();
    private final PlainNet plain = new PlainNet();
    private final int[] weights;
    private final int inputsWanted;

    private CompareTest(long seed, int[] weights, int inputsWanted) {
        this.seed = seed;
        this.weights = weights;
        this.inputsWanted = inputsWanted;
    }

    public static void main(String[] args) {
        // gate, feed, cut, set, value, round, step, reset, blame, cycle, choices, count
        int[][] moods = {
            {8, 20, 3, 14, 10, 10, 10, 2, 8, 8, 2, 12},
            {2, 30, 2, 20, 10, 10, 4, 1, 10, 10, 2, 10},
            {20, 30, 1, 5, 5, 5, 2, 1, 5, 5, 0, 8},
            {3, 8, 1, 25, 5, 5, 30, 3, 3, 2, 3, 10},
            {4, 12, 6, 10, 4, 4, 4, 1, 4, 20, 1, 20}
        };
        for (int run = 0; run < 400; run++) {
            int inputs = run % 20 == 0 ? 12 : run % 9;
            new CompareTest(run * 7919L + 17, moods[run % moods.length], inputs).runAll(run);
        }
        Check.end();
    }

    private void runAll(int run) {
        for (int i = 0; i < CALLS; i++) {
            String why = "run " + run + " call " + i + " ";
            call(why);
        }
    }

    private int below(int n) {
        seed = seed * 6364136223846793005L + 1442695040888963407L;
        return (int) ((seed >>> 33) % n);
    }

    private int someGate() {
        int n = plain.count(0);
        if (below(60) == 0 || n == 0) {
            return below(3) == 0 ? -1 : n + below(3);
        }
        return below(3) == 0 ? n - 1 - below(Math.min(n, 5)) : below(n);
    }

    private int someSort() {
        if (below(40) == 0) {
            return below(2) == 0 ? -1 : 4;
        }
        int sort = below(8);
        if (sort == 0) {
            return plain.count(2) < inputsWanted ? 0 : 2;
        }
        return sort < 3 ? 1 : 2 + (sort & 1);
    }

    private int someCall() {
        int all = 0;
        for (int w : weights) {
            all += w;
        }
        int at = below(all);
        int call = 0;
        while (at >= weights[call]) {
            at -= weights[call];
            call++;
        }
        return call;
    }

    private void call(String why) {
        int g = someGate();
        int h = someGate();
        boolean negated = below(2) == 0;
        int small = below(30) == 0 ? below(7) - 2 : below(3);
        int sort = someSort();
        int what = below(10) - 1;
        switch (someCall()) {
            case 0:
                both(why + "gate", () -> x.gate(sort), () -> plain.gate(sort));
                break;
            case 1:
                both(why + "feed", () -> x.feed(g, h, negated), () -> plain.feed(g, h, negated));
                break;
            case 2:
                both(why + "cut", () -> x.cut(g), () -> plain.cut(g));
                break;
            case 3:
                int n = plain.count(2) == 0 ? g : below(3) == 0 ? g : anInput();
                both(why + "set", () -> x.set(n, small), () -> plain.set(n, small));
                break;
            case 4:
                both(why + "value", () -> x.value(g), () -> plain.value(g));
                break;
            case 5:
                both(why + "round", () -> x.round(g), () -> plain.round(g));
                break;
            case 6:
                both(why + "step", x::step, plain::step);
                break;
            case 7:
                both(why + "reset", x::reset, plain::reset);
                break;
            case 8:
                both(why + "blame", () -> x.blame(g), () -> plain.blame(g));
                break;
            case 9:
                both(why + "cycle", () -> x.cycle(g), () -> plain.cycle(g));
                break;
            case 10:
                both(why + "choices", x::choices, plain::choices);
                break;
            default:
                both(why + "count " + what, () -> x.count(what), () -> plain.count(what));
                break;
        }
    }

    private int anInput() {
        for (int tries = 0; tries < 50; tries++) {
            int g = below(plain.count(0));
            if (plain.isInput(g)) {
                return g;
            }
        }
        return 0;
    }

    private static void both(String what, Check.Call call, Check.Call plainCall) {
        Check.same(what, Check.told(call), Check.told(plainCall));
    }
}
