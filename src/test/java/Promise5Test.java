/** Promise 5: set. */
public final class Promise5Test {
    private static final int[] NO_VALUES = {-1, -2, 3, 4, Integer.MAX_VALUE, Integer.MIN_VALUE};

    public static void main(String[] args) {
        Check.test("promise 5: an input is unknown at first", Promise5Test::firstBefore);
        Check.test("promise 5: answers the value before, over all pairs of values", Promise5Test::pairs);
        Check.test("promise 5: only the input with the gate's number gets it", Promise5Test::onlyThatOne);
        Check.test("promise 5: latches and feeds stay", Promise5Test::restStays);
        Check.test("promise 5: all twelve inputs can be set", Promise5Test::twelve);
        Check.test("promise 5: a set is seen by what was asked before", Promise5Test::seenAtOnce);
        Check.test("promise 5: IndexOutOfBoundsException when the gate is not there", Promise5Test::outside);
        Check.test("promise 5: IllegalArgumentException when it is no input", Promise5Test::noInput);
        Check.test("promise 5: IllegalArgumentException when v is not 0 .. 2", Promise5Test::noValue);
        Check.test("promise 5: IllegalArgumentException when both are wrong", Promise5Test::noInputNoValue);
        Check.test("promise 5: a missing gate goes before a wrong value", Promise5Test::indexBeforeArgument);
        Check.end();
    }

    private static void firstBefore() {
        for (int v = 0; v <= 2; v++) {
            Check.due("set(0, " + v + ")", Nets.of(0).set(0, v), 2);
        }
    }

    private static void pairs() {
        for (int a = 0; a <= 2; a++) {
            for (int b = 0; b <= 2; b++) {
                TernaryNet x = Nets.of(0);
                x.set(0, a);
                Check.due("value", x.value(0), a);
                Check.due("set from " + a + " to " + b, x.set(0, b), a);
                Check.due("value then", x.value(0), b);
                Check.due("round then", x.round(0), b == 2 ? Nets.NONE : 0);
            }
        }
    }

    private static void onlyThatOne() {
        TernaryNet x = Nets.of(2, 0, 1, 0, 0);
        Check.due("set", x.set(3, 1), 2);
        int[] values = {1, 2, 0, 1, 2};
        for (int g = 0; g < values.length; g++) {
            Check.due("value of " + g, x.value(g), values[g]);
        }
    }

    private static void restStays() {
        for (int v = 0; v <= 2; v++) {
            TernaryNet x = Nets.lively();
            for (int g = 0; g < 3; g++) {
                x.set(g, v);
            }
            Check.due("the latch that is 1", x.value(3), 1);
            Check.due("the latch that is 0", x.value(4), 0);
            Nets.feedsWere("set to " + v, x, 0, 0, 0, 1, 1, 3, 2);
        }
    }

    private static void twelve() {
        TernaryNet x = Nets.of(new int[12]);
        for (int g = 0; g < 12; g++) {
            Check.due("set", x.set(g, g % 2), 2);
        }
        for (int g = 0; g < 12; g++) {
            Check.due("value", x.value(g), g % 2);
            Check.due("before", x.set(g, 2), g % 2);
        }
        Check.due("unknown", x.count(4), 12);
    }

    private static void seenAtOnce() {
        TernaryNet x = Nets.of(0, 3);
        x.feed(1, 0, true);
        Check.due("unknown", x.value(1), 2);
        x.set(0, 0);
        Check.due("by a 0", x.value(1), 1);
        x.set(0, 1);
        Check.due("by a 1", x.value(1), 0);
        x.set(0, 2);
        Check.due("unknown again", x.value(1), 2);
        Check.due("round", x.round(1), Nets.NONE);
    }

    private static void outside() {
        for (int v = 0; v <= 2; v++) {
            int w = v;
            Nets.indexOutside("set to " + v, (x, g) -> x.set(g, w));
        }
    }

    private static void noInput() {
        for (int g = 1; g <= 3; g++) {
            TernaryNet x = Nets.small();
            for (int v = 0; v <= 2; v++) {
                int h = g;
                int w = v;
                Check.argument("set(" + g + ", " + v + ")", x, () -> x.set(h, w));
            }
        }
    }

    private static void noValue() {
        for (int before = 0; before <= 2; before++) {
            TernaryNet x = Nets.small();
            x.set(0, before);
            for (int v : NO_VALUES) {
                Check.argument("set(0, " + v + ")", x, () -> x.set(0, v));
            }
            Check.due("before", x.set(0, 0), before);
        }
    }

    private static void noInputNoValue() {
        for (int g = 1; g <= 3; g++) {
            TernaryNet x = Nets.small();
            for (int v : NO_VALUES) {
                int h = g;
                Check.argument("set(" + g + ", " + v + ")", x, () -> x.set(h, v));
            }
        }
    }

    private static void indexBeforeArgument() {
        for (int v : NO_VALUES) {
            Nets.indexOutside("set to " + v, (x, g) -> x.set(g, v));
        }
    }
}
