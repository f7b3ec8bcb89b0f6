/** Promise 7: round. */
public final class Promise7Test {
    public static void main(String[] args) {
        Check.test("promise 7: a known input and a latch are known in round 0", Promise7Test::roundZero);
        Check.test("promise 7: an and and an or without feeds in round 1", Promise7Test::withoutFeeds);
        Check.test("promise 7: NONE when the gate is unknown", Promise7Test::unknown);
        Check.test("promise 7: a round sees only what was known before it, with the numbers", Promise7Test::upwards);
        Check.test("promise 7: a round sees only what was known before it, against the numbers", Promise7Test::downwards);
        Check.test("promise 7: the first feed that decides gives the round", Promise7Test::firstThatDecides);
        Check.test("promise 7: where none decides the last feed gives the round", Promise7Test::lastOfAll);
        Check.test("promise 7: rounds inside a cycle that settles", Promise7Test::inACycle);
        Check.test("promise 7: a full net as one chain: round 600", Promise7Test::longest);
        Check.test("promise 7: asking changes nothing", Promise7Test::asking);
        Check.test("promise 7: IndexOutOfBoundsException when the gate is not there", Promise7Test::outside);
        Check.end();
    }

    private static void roundZero() {
        TernaryNet x = Nets.of(0, 0, 1);
        x.set(0, 0);
        x.set(1, 1);
        for (int g = 0; g < 3; g++) {
            Check.due("round(" + g + ")", x.round(g), 0);
        }
        x.feed(2, 2, true);
        x.step();
        Check.due("a latch that is 1", x.round(2), 0);
    }

    private static void withoutFeeds() {
        TernaryNet x = Nets.of(2, 3);
        Check.due("and", x.round(0), 1);
        Check.due("or", x.round(1), 1);
    }

    private static void unknown() {
        TernaryNet x = Nets.of(0, 2, 3);
        x.feed(1, 0, false);
        x.feed(2, 2, true);
        for (int g = 0; g < 3; g++) {
            Check.due("round(" + g + ")", x.round(g), Nets.NONE);
        }
        x.set(0, 1);
        Check.due("known", x.round(1), 1);
        Check.due("unknown still", x.round(2), Nets.NONE);
        x.set(0, 2);
        Check.due("unknown again", x.round(1), Nets.NONE);
    }

    private static void upwards() {
        int n = 100;
        TernaryNet x = Nets.of(0);
        for (int i = 1; i <= n; i++) {
            x.gate(2 + i % 2);
            x.feed(i, i - 1, true);
        }
        x.set(0, 1);
        for (int i = 0; i <= n; i++) {
            Check.due("round(" + i + ")", x.round(i), i);
        }
    }

    private static void downwards() {
        int n = 100;
        TernaryNet x = new TernaryNet();
        for (int i = 0; i < n; i++) {
            x.gate(2 + i % 2);
        }
        x.gate(Nets.INPUT);
        for (int i = 0; i < n; i++) {
            x.feed(i, i + 1, true);
        }
        x.set(n, 1);
        for (int i = 0; i <= n; i++) {
            Check.due("round(" + i + ")", x.round(i), n - i);
        }
    }

    /** A latch, and behind it an and (1) in round 1, an or (1) in round 2, an or (0) in round 3. */
    private static TernaryNet threeRounds() {
        TernaryNet x = Nets.of(1, 2, 3, 3);
        x.feed(2, 1, false);
        x.feed(3, 2, true);
        return x;
    }

    private static void firstThatDecides() {
        for (int turn = 0; turn < 2; turn++) {
            TernaryNet x = threeRounds();
            int and = x.gate(Nets.AND);
            int or = x.gate(Nets.OR);
            x.feed(and, turn == 0 ? 3 : 0, false);
            x.feed(and, turn == 0 ? 0 : 3, false);
            x.feed(or, turn == 0 ? 2 : 1, false);
            x.feed(or, turn == 0 ? 1 : 2, false);
            Check.due("an and by a 0 of round 0", x.round(and), 1);
            Check.due("an or by a 1 of round 1", x.round(or), 2);
        }
    }

    private static void lastOfAll() {
        for (int turn = 0; turn < 2; turn++) {
            TernaryNet x = threeRounds();
            int and = x.gate(Nets.AND);
            int or = x.gate(Nets.OR);
            x.feed(and, turn == 0 ? 2 : 1, false);
            x.feed(and, turn == 0 ? 1 : 2, false);
            x.feed(or, turn == 0 ? 3 : 0, false);
            x.feed(or, turn == 0 ? 0 : 3, false);
            Check.due("an and that waits for round 2", x.round(and), 3);
            Check.due("an or that waits for round 3", x.round(or), 4);
        }
    }

    private static void inACycle() {
        TernaryNet x = Nets.of(3, 2, 3, 0);
        x.feed(1, 3, false);
        x.feed(1, 0, false);
        x.feed(2, 1, false);
        x.feed(0, 2, false);
        x.set(3, 0);
        Check.due("the and", x.round(1), 1);
        Check.due("the or behind it", x.round(2), 2);
        Check.due("the or behind that", x.round(0), 3);
    }

    private static void longest() {
        TernaryNet x = new TernaryNet();
        for (int i = 0; i < 600; i++) {
            x.gate(Nets.AND);
        }
        for (int i = 0; i < 599; i++) {
            x.feed(i, i + 1, false);
        }
        Check.due("round(599)", x.round(599), 1);
        Check.due("round(0)", x.round(0), 600);
        Check.due("value(0)", x.value(0), 1);
        Check.due("rounds", x.count(5), 600);
        Check.due("unknown", x.count(4), 0);
    }

    private static void asking() {
        Nets.asking("round", (x, g) -> x.round(g));
    }

    private static void outside() {
        Nets.indexOutside("round", (x, g) -> x.round(g));
    }
}
