/** Promise 6: value. */
public final class Promise6Test {
    public static void main(String[] args) {
        Check.test("promise 6: an input is unknown at first, a latch 0", Promise6Test::first);
        Check.test("promise 6: an and is 1 without feeds, an or 0", Promise6Test::withoutFeeds);
        Check.test("promise 6: one feed, as it is and negated", Promise6Test::oneFeed);
        Check.test("promise 6: two feeds, over all values and negations", Promise6Test::twoFeeds);
        Check.test("promise 6: the last of many feeds decides too", Promise6Test::manyFeeds);
        Check.test("promise 6: a feed and its negation stay unknown", Promise6Test::noInsight);
        Check.test("promise 6: a cycle stays unknown when nothing decides it", Promise6Test::cyclesStay);
        Check.test("promise 6: a cycle is known when something decides it", Promise6Test::cyclesDecided);
        Check.test("promise 6: what was known once is not kept", Promise6Test::nothingKept);
        Check.test("promise 6: a chain of 250 gates", Promise6Test::longChain);
        Check.test("promise 6: the first and the last gate of a full net", Promise6Test::fullNet);
        Check.test("promise 6: asking changes nothing", Promise6Test::asking);
        Check.test("promise 6: IndexOutOfBoundsException when the gate is not there", Promise6Test::outside);
        Check.end();
    }

    private static void first() {
        TernaryNet x = Nets.of(0, 1);
        Check.due("an input", x.value(0), 2);
        Check.due("a latch", x.value(1), 0);
        x.feed(1, 0, true);
        Check.due("a latch with an unknown feed", x.value(1), 0);
    }

    private static void withoutFeeds() {
        TernaryNet x = Nets.of(2, 3);
        Check.due("and", x.value(0), 1);
        Check.due("or", x.value(1), 0);
    }

    private static void oneFeed() {
        int[] not = {1, 0, 2};
        for (int sort = 2; sort <= 3; sort++) {
            for (int v = 0; v <= 2; v++) {
                TernaryNet x = Nets.of(0, sort, sort);
                x.feed(1, 0, false);
                x.feed(2, 0, true);
                x.set(0, v);
                Check.due("as it is", x.value(1), v);
                Check.due("negated", x.value(2), not[v]);
            }
        }
    }

    private static void twoFeeds() {
        int[] not = {1, 0, 2};
        int[][] andOf = {{0, 0, 0}, {0, 1, 2}, {0, 2, 2}};
        int[][] orOf = {{0, 1, 2}, {1, 1, 1}, {2, 1, 2}};
        for (int a = 0; a <= 2; a++) {
            for (int b = 0; b <= 2; b++) {
                for (int negations = 0; negations < 4; negations++) {
                    boolean n0 = (negations & 1) != 0;
                    boolean n1 = (negations & 2) != 0;
                    TernaryNet x = Nets.of(0, 0, 2, 3);
                    for (int to = 2; to <= 3; to++) {
                        x.feed(to, 0, n0);
                        x.feed(to, 1, n1);
                    }
                    x.set(0, a);
                    x.set(1, b);
                    int p = n0 ? not[a] : a;
                    int q = n1 ? not[b] : b;
                    Check.due("and of " + p + q, x.value(2), andOf[p][q]);
                    Check.due("or of " + p + q, x.value(3), orOf[p][q]);
                }
            }
        }
    }

    private static void manyFeeds() {
        for (int place = 0; place < 12; place++) {
            TernaryNet x = Nets.of(new int[12]);
            int and = x.gate(Nets.AND);
            int or = x.gate(Nets.OR);
            for (int i = 0; i < 12; i++) {
                x.feed(and, i, false);
                x.feed(or, i, true);
                x.set(i, 1);
            }
            Check.due("all are 1", x.value(and), 1);
            Check.due("all are 0", x.value(or), 0);
            x.set(place, 2);
            Check.due("one is unknown", x.value(and), 2);
            Check.due("one is unknown", x.value(or), 2);
            x.set((place + 5) % 12, 0);
            Check.due("another decides the and", x.value(and), 0);
            Check.due("another decides the or", x.value(or), 1);
        }
    }

    private static void noInsight() {
        TernaryNet x = Nets.of(0, 2, 3);
        for (int to = 1; to <= 2; to++) {
            x.feed(to, 0, false);
            x.feed(to, 0, true);
        }
        Check.due("x and not x", x.value(1), 2);
        Check.due("x or not x", x.value(2), 2);
        x.set(0, 1);
        Check.due("1 and not 1", x.value(1), 0);
        Check.due("1 or not 1", x.value(2), 1);
    }

    private static void cyclesStay() {
        for (int sort = 2; sort <= 3; sort++) {
            for (int negated = 0; negated <= 1; negated++) {
                TernaryNet x = Nets.of(sort);
                x.feed(0, 0, negated == 1);
                Check.due("a gate of itself", x.value(0), 2);
            }
        }
        TernaryNet ring = Nets.of(2, 3, 2);
        ring.feed(0, 1, false);
        ring.feed(1, 2, false);
        ring.feed(2, 0, false);
        for (int g = 0; g < 3; g++) {
            Check.due("on a ring", ring.value(g), 2);
        }
    }

    private static void cyclesDecided() {
        TernaryNet x = Nets.of(0, 2, 3);
        x.feed(1, 0, false);
        x.feed(1, 2, false);
        x.feed(2, 1, false);
        Check.due("nothing decides", x.value(2), 2);
        x.set(0, 0);
        Check.due("the and", x.value(1), 0);
        Check.due("the or", x.value(2), 0);
    }

    private static void nothingKept() {
        TernaryNet x = Nets.of(0, 2, 3);
        x.feed(1, 0, false);
        x.feed(1, 2, false);
        x.feed(2, 1, false);
        x.set(0, 0);
        Check.due("known", x.value(2), 0);
        x.set(0, 1);
        Check.due("the and", x.value(1), 2);
        Check.due("the or", x.value(2), 2);
    }

    private static void longChain() {
        TernaryNet x = Nets.of(0);
        for (int i = 1; i <= 250; i++) {
            x.gate(2 + i % 2);
            x.feed(i, i - 1, true);
        }
        Check.due("unknown", x.value(250), 2);
        x.set(0, 1);
        Check.due("the last", x.value(250), 1);
        Check.due("the last but one", x.value(249), 0);
        x.set(0, 0);
        Check.due("the last then", x.value(250), 0);
    }

    private static void fullNet() {
        TernaryNet x = Nets.fullOfGates();
        Check.due("value(0)", x.value(0), 2);
        int[] values = {0, 1, 0};
        Check.due("value(599)", x.value(599), values[599 % 3]);
        Check.due("value(598)", x.value(598), values[598 % 3]);
        Check.due("value(597)", x.value(597), values[597 % 3]);
    }

    private static void asking() {
        Nets.asking("value", (x, g) -> x.value(g));
    }

    private static void outside() {
        Nets.indexOutside("value", (x, g) -> x.value(g));
    }
}
