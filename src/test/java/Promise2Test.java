/** Promise 2: gate. */
public final class Promise2Test {
    private static final int[] NO_SORTS = {-1, -2, 4, 5, Integer.MAX_VALUE, Integer.MIN_VALUE};

    public static void main(String[] args) {
        Check.test("promise 2: gates get the numbers 0, 1, ..", Promise2Test::numbers);
        Check.test("promise 2: the sorts 0 .. 3 are what the terms say", Promise2Test::sorts);
        Check.test("promise 2: a new gate has no feeds", Promise2Test::noFeeds);
        Check.test("promise 2: a new gate is seen by what was asked before", Promise2Test::seenAtOnce);
        Check.test("promise 2: a new gate leaves the others as they are", Promise2Test::othersStay);
        Check.test("promise 2: IllegalArgumentException when sort is not 0 .. 3", Promise2Test::wrongSorts);
        Check.test("promise 2: IllegalArgumentException with 12 inputs too", Promise2Test::wrongSortsAmongInputs);
        Check.test("promise 2: IllegalArgumentException with 600 gates too", Promise2Test::wrongSortsWhenFull);
        Check.test("promise 2: the twelfth input is made, a thirteenth is NONE", Promise2Test::inputsEnd);
        Check.test("promise 2: with 12 inputs the other sorts are made", Promise2Test::othersAmongInputs);
        Check.test("promise 2: only inputs count for the 12", Promise2Test::manyOfTheOthers);
        Check.test("promise 2: gate 599 is made, then NONE for every sort", Promise2Test::gatesEnd);
        Check.test("promise 2: NONE with 600 gates and 12 inputs", Promise2Test::bothEnd);
        Check.end();
    }

    private static void numbers() {
        TernaryNet x = new TernaryNet();
        for (int i = 0; i < 40; i++) {
            Check.due("gate", x.gate(i < 12 ? 3 - i % 4 : 1 + i % 3), i);
            Check.due("gates", x.count(0), i + 1);
        }
    }

    private static void sorts() {
        TernaryNet x = Nets.of(0, 1, 2, 3);
        Check.due("inputs", x.count(2), 1);
        Check.due("latches", x.count(3), 1);
        int[] values = {2, 0, 1, 0};
        int[] rounds = {Nets.NONE, 0, 1, 1};
        for (int g = 0; g < 4; g++) {
            Check.due("value of sort " + g, x.value(g), values[g]);
            Check.due("round of sort " + g, x.round(g), rounds[g]);
        }
    }

    private static void noFeeds() {
        for (int sort = 0; sort <= 3; sort++) {
            TernaryNet x = Nets.small();
            int g = x.gate(sort);
            Check.due("feeds in all", x.count(1), 5);
            Check.due("cut of sort " + sort, x.cut(g), 0);
        }
    }

    private static void seenAtOnce() {
        TernaryNet x = new TernaryNet();
        Check.due("settles", x.count(7), 1);
        Check.due("no part", x.count(6), 0);
        x.gate(Nets.INPUT);
        Check.due("does not settle", x.count(7), 0);
        Check.due("unknown", x.count(4), 1);
        x.gate(Nets.AND);
        Check.due("value", x.value(1), 1);
        Check.due("cycle", x.cycle(1), Nets.NONE);
        Check.due("choices", x.choices(), 2);
    }

    private static void othersStay() {
        for (int sort = 0; sort <= 3; sort++) {
            TernaryNet x = Nets.lively();
            TernaryNet without = Nets.lively();
            Check.due("the number", x.gate(sort), 7);
            for (int g = 0; g < 7; g++) {
                Check.same("gate " + g, Nets.pictureOf(x, g), Nets.pictureOf(without, g));
            }
            Nets.livelyHolds("sort " + sort, x);
            Nets.feedsWere("sort " + sort, x, 0, 0, 0, 1, 1, 3, 2, 0);
        }
    }

    private static void wrongSorts() {
        for (int sort : NO_SORTS) {
            TernaryNet empty = new TernaryNet();
            Check.argument("gate(" + sort + ")", empty, () -> empty.gate(sort));
            Check.due("the first gate", empty.gate(3), 0);
            TernaryNet x = Nets.small();
            Check.argument("gate(" + sort + ") in a small net", x, () -> x.gate(sort));
            Check.due("the next gate", x.gate(0), 4);
        }
    }

    private static void wrongSortsAmongInputs() {
        for (int sort : NO_SORTS) {
            TernaryNet x = inputs(12);
            Check.argument("gate(" + sort + ")", x, () -> x.gate(sort));
        }
    }

    private static void wrongSortsWhenFull() {
        TernaryNet x = Nets.fullOfGates();
        for (int sort : NO_SORTS) {
            Check.argument("gate(" + sort + ")", x, () -> x.gate(sort));
        }
    }

    private static void inputsEnd() {
        TernaryNet x = inputs(11);
        Check.due("the twelfth", x.gate(Nets.INPUT), 11);
        Check.due("inputs", x.count(2), 12);
        Check.none("the thirteenth", x, () -> x.gate(Nets.INPUT));
        Check.none("and again", x, () -> x.gate(Nets.INPUT));
        Check.due("the next number", x.gate(Nets.AND), 12);
        Check.none("and then", x, () -> x.gate(Nets.INPUT));
    }

    private static void othersAmongInputs() {
        TernaryNet x = inputs(12);
        Check.due("a latch", x.gate(Nets.LATCH), 12);
        Check.due("an and", x.gate(Nets.AND), 13);
        Check.due("an or", x.gate(Nets.OR), 14);
        Check.due("latches", x.count(3), 1);
        Check.due("inputs", x.count(2), 12);
    }

    private static void manyOfTheOthers() {
        for (int sort = 1; sort <= 3; sort++) {
            TernaryNet x = new TernaryNet();
            for (int i = 0; i < 480; i++) {
                Check.due("gate", x.gate(sort), i);
            }
            for (int i = 0; i < 12; i++) {
                Check.due("input", x.gate(Nets.INPUT), 480 + i);
            }
            Check.due("a thirteenth input", x.gate(Nets.INPUT), Nets.NONE);
        }
    }

    private static void gatesEnd() {
        TernaryNet x = new TernaryNet();
        for (int i = 0; i < 600; i++) {
            Check.due("gate", x.gate(i == 0 ? Nets.INPUT : Nets.OR), i);
        }
        for (int sort = 0; sort <= 3; sort++) {
            int s = sort;
            Check.none("gate 600 of sort " + sort, x, () -> x.gate(s));
        }
        Check.due("gates", x.count(0), 600);
    }

    private static void bothEnd() {
        TernaryNet x = Nets.fullOfGates();
        for (int sort = 0; sort <= 3; sort++) {
            int s = sort;
            Check.none("gate of sort " + sort, x, () -> x.gate(s));
        }
        Check.due("inputs", x.count(2), 12);
    }

    private static TernaryNet inputs(int n) {
        return Nets.of(new int[n]);
    }
}
