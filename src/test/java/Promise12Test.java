/** Promise 12: choices. */
public final class Promise12Test {
    public static void main(String[] args) {
        Check.test("promise 12: 1 in an empty net", Promise12Test::emptyNet);
        Check.test("promise 12: without unknown inputs 1 or 0, as the net settles", Promise12Test::nothingToChoose);
        Check.test("promise 12: all choices of 0 .. 12 unknown inputs", Promise12Test::powersOfTwo);
        Check.test("promise 12: 0 where no choice settles", Promise12Test::never);
        Check.test("promise 12: all but one choice, whichever it is", Promise12Test::allButOne);
        Check.test("promise 12: one choice alone", Promise12Test::onlyOne);
        Check.test("promise 12: ands and ors that are 0 and that are 1", Promise12Test::bothValues);
        Check.test("promise 12: as many as settle when each choice is set", Promise12Test::oneByOne);
        Check.test("promise 12: inputs that are known stay", Promise12Test::knownStay);
        Check.test("promise 12: the latches are as they are", Promise12Test::latches);
        Check.test("promise 12: nothing changes", Promise12Test::changesNothing);
        Check.test("promise 12: asking changes nothing for what follows either", Promise12Test::asking);
        Check.test("promise 12: what is known goes through long cycles either way", Promise12Test::longCycles);
        Check.test("promise 12: what is known goes to and fro in a cycle", Promise12Test::toAndFro);
        Check.test("promise 12: a full net", Promise12Test::fullNet);
        Check.end();
    }

    private static void emptyNet() {
        Check.due("choices", new TernaryNet().choices(), 1);
    }

    private static void nothingToChoose() {
        TernaryNet x = Nets.of(1, 2, 3);
        Check.due("no inputs", x.choices(), 1);
        x.gate(Nets.INPUT);
        x.set(3, 0);
        Check.due("a known input", x.choices(), 1);
        x.feed(1, 1, false);
        Check.due("a gate that stays unknown", x.choices(), 0);
    }

    private static void powersOfTwo() {
        TernaryNet x = new TernaryNet();
        for (int i = 0; i < 12; i++) {
            Check.due("choices of " + i, x.choices(), 1 << i);
            x.gate(Nets.INPUT);
        }
        Check.due("choices of 12", x.choices(), 4096);
        for (int i = 0; i < 12; i++) {
            x.set((i * 5 + 3) % 12, i % 2);
            Check.due("choices of " + (11 - i), x.choices(), 1 << (11 - i));
        }
    }

    private static void never() {
        TernaryNet x = Nets.of(3);
        x.feed(0, 0, true);
        for (int i = 0; i <= 12; i++) {
            Check.due("choices of " + i, x.choices(), 0);
            x.gate(Nets.INPUT);
        }
    }

    /** A gate that feeds itself and is known unless the n inputs (1 .. n) stand just so. */
    private static TernaryNet unlessJust(int n, int just) {
        TernaryNet x = Nets.of(3);
        x.feed(0, 0, true);
        for (int i = 0; i < n; i++) {
            x.feed(0, x.gate(Nets.INPUT), (just >> i & 1) == 1);
        }
        return x;
    }

    private static void allButOne() {
        for (int n = 1; n <= 12; n++) {
            for (int just = 0; just < 1 << n; just += 1 + just / 3) {
                Check.due("of " + n, unlessJust(n, just).choices(), (1 << n) - 1);
            }
            Check.due("all ones of " + n, unlessJust(n, (1 << n) - 1).choices(), (1 << n) - 1);
        }
    }

    private static void onlyOne() {
        for (int n = 1; n <= 12; n++) {
            for (int just = 0; just < 1 << n; just += 1 + just / 2) {
                TernaryNet x = new TernaryNet();
                for (int i = 0; i < n; i++) {
                    int input = x.gate(Nets.INPUT);
                    int or = x.gate(Nets.OR);
                    x.feed(or, or, true);
                    x.feed(or, input, (just >> i & 1) == 0);
                }
                Check.due("of " + n, x.choices(), 1);
            }
        }
    }

    /** A gate of all inputs, and one that feeds itself and is known when that gate is what it should be. */
    private static void bothValues() {
        for (int n = 1; n <= 12; n++) {
            for (int sort = Nets.AND; sort <= Nets.OR; sort++) {
                TernaryNet x = Nets.of(sort);
                for (int i = 0; i < n; i++) {
                    x.feed(0, x.gate(Nets.INPUT), false);
                }
                Check.due("known on all of " + n, x.choices(), 1 << n);
                int own = x.gate(Nets.AND);
                int ones = sort == Nets.AND ? 1 : (1 << n) - 1;
                x.feed(own, own, false);
                x.feed(own, 0, true);
                Check.due("where sort " + sort + " of " + n + " is 1", x.choices(), ones);
                x.cut(own);
                x.feed(own, own, true);
                x.feed(own, 0, false);
                Check.due("where sort " + sort + " of " + n + " is 0", x.choices(), (1 << n) - ones);
            }
        }
    }

    private static void oneByOne() {
        for (int run = 0; run < 600; run++) {
            int n = run % 6;
            TernaryNet x = mixed(run, n);
            int told = x.choices();
            int settling = 0;
            for (int choice = 0; choice < 1 << n; choice++) {
                for (int i = 0; i < n; i++) {
                    x.set(2 + i, choice >> i & 1);
                }
                settling += x.count(7);
            }
            Check.due("net " + run, told, settling);
        }
    }

    /** Latches that are 1 and 0, n unknown inputs, and eight ands and ors with up to three feeds. */
    private static TernaryNet mixed(int run, int n) {
        TernaryNet x = Nets.of(Nets.LATCH, Nets.LATCH);
        x.feed(0, 0, true);
        x.step();
        for (int i = 0; i < n; i++) {
            x.gate(Nets.INPUT);
        }
        for (int i = 0; i < 8; i++) {
            x.gate(Nets.AND + i % 2);
        }
        int seed = run;
        for (int i = 0; i < 24; i++) {
            seed = seed * 1103515245 + 12345;
            int from = (seed >>> 16) % (n + 12);
            if (from < n + 10) {
                x.feed(n + 2 + i % 8, from, (seed >>> 8 & 1) == 1);
            }
        }
        return x;
    }

    private static void knownStay() {
        for (int n = 1; n <= 12; n++) {
            for (int place = 0; place < n; place++) {
                int just = 0x5A6 & (1 << n) - 1;
                TernaryNet x = unlessJust(n, just);
                int v = just >> place & 1;
                x.set(place + 1, 1 - v);
                Check.due("the half that settles", x.choices(), 1 << (n - 1));
                x.set(place + 1, v);
                Check.due("the other half", x.choices(), (1 << (n - 1)) - 1);
            }
        }
    }

    private static void latches() {
        TernaryNet x = Nets.of(1, 0, 2);
        x.feed(0, 0, true);
        x.feed(2, 2, false);
        x.feed(2, 0, false);
        x.feed(2, 1, false);
        Check.due("the latch is 0", x.choices(), 2);
        x.set(1, 0);
        Check.due("a step", x.step(), 1);
        x.set(1, 2);
        Check.due("the latch is 1", x.choices(), 1);
        x.reset();
        Check.due("the latch is 0 again", x.choices(), 2);
        TernaryNet fed = Nets.of(0, 1);
        fed.feed(1, 0, false);
        Check.due("a latch that an input feeds", fed.choices(), 2);
    }

    private static void changesNothing() {
        TernaryNet x = Nets.small();
        x.gate(Nets.INPUT);
        x.set(4, 1);
        String before = Nets.picture(x);
        for (int i = 0; i < 3; i++) {
            Check.due("choices", x.choices(), 1);
        }
        Check.same("all that can be asked", Nets.picture(x), before);
        Check.due("the unknown input", x.set(0, 0), 2);
        Check.due("the known one", x.set(4, 0), 1);
        Check.due("no latch is 1", x.reset(), 0);
    }

    private static void asking() {
        Nets.asking("choices", (x, g) -> x.choices());
    }

    /** All inputs at one place of a two-way chain that hands the place's deciding value on. */
    private static void longCycles() {
        int n = 80;
        for (int start : new int[] {0, n / 2, n - 1}) {
            TernaryNet x = new TernaryNet();
            for (int i = 0; i < n; i++) {
                x.gate(i % 3 == 0 ? Nets.AND : Nets.OR);
            }
            for (int i = 0; i < n; i++) {
                boolean or = i % 3 != 0;
                if (i > 0) {
                    x.feed(i, i - 1, or != ((i - 1) % 3 != 0));
                }
                if (i < n - 1) {
                    x.feed(i, i + 1, or != ((i + 1) % 3 != 0));
                }
            }
            for (int i = 0; i < 12; i++) {
                x.feed(start, x.gate(Nets.INPUT), start % 3 != 0);
            }
            Check.due("all but all ones", x.choices(), 4095);
        }
    }

    // A 1 at gate 0 jumps seven on, comes back gate by gate to the next start of a jump, jumps again:
    // no order of the gates does that in a few passes.
    private static void toAndFro() {
        int n = 200;
        TernaryNet x = new TernaryNet();
        for (int i = 0; i < n; i++) {
            x.gate(Nets.OR);
        }
        for (int i = 0; i < n - 1; i++) {
            x.feed(i, i + 1, false);
        }
        for (int i = 0; i + 7 < n; i += 4) {
            x.feed(i + 7, i, false);
        }
        for (int i = 0; i < 12; i++) {
            x.feed(0, x.gate(Nets.INPUT), i % 2 == 0);
        }
        Check.due("all but the one without a 1", x.choices(), 4095);
    }

    private static void fullNet() {
        Check.due("600 gates, 12 inputs", Nets.fullOfGates().choices(), 4096);
        TernaryNet x = Nets.of(new int[12]);
        for (int i = 12; i < 600; i++) {
            x.gate(Nets.AND);
        }
        int feeds = 0;
        for (int i = 12; i < 600; i++) {
            for (int j = 0; j < 4; j++) {
                feeds = x.feed(i, i == 599 ? j : i + 1, false);
            }
        }
        Check.due("feeds of the last", feeds, 4);
        for (int j = 4; j < 12; j++) {
            x.feed(599, j, true);
        }
        Check.due("a chain against the numbers", x.choices(), 4096);
        x.feed(599, 12, false);
        Check.due("closed to a ring", x.choices(), 4095);
    }
}
