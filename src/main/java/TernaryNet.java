import java.util.ArrayList;

/**
 * A net of gates, perhaps with cycles, whose wires have three values: what is known spreads until
 * nothing more becomes known; latches keep a state from one instant to the next.
 */
public final class TernaryNet {
    public static final int NONE = -1;

    private static final int INPUT = 0;
    private static final int LATCH = 1;
    private static final int AND = 2;
    private static final int OR = 3;

    private static final int UNKNOWN = 2;

    private static final int MOST_GATES = 600;
    private static final int MOST_FEEDS = 2400;
    private static final int MOST_INPUTS = 12;

    private final ArrayList<Gate> gates = new ArrayList<>();
    private final Parts parts = new Parts();
    private int feedCount = 0;
    private int inputCount = 0;
    private int latchCount = 0;

    private int unknownCount = 0;
    private int roundCount = 0;

    // Most calls change nothing, so what was worked out is kept until a call makes it stale.
    private boolean valuesStale = true;
    private boolean partsStale = true;

    public TernaryNet() {
    }

    public int gate(int sort) throws IllegalArgumentException {
        if (sort < INPUT || sort > OR) {
            throw new IllegalArgumentException("no such sort");
        }
        if (gates.size() >= MOST_GATES || (sort == INPUT && inputCount >= MOST_INPUTS)) {
            return NONE;
        }
        Gate made = new Gate(gates.size(), sort);
        gates.add(made);
        if (sort == INPUT) {
            inputCount++;
        } else if (sort == LATCH) {
            latchCount++;
        }
        forgetAll();
        return made.number;
    }

    public int feed(int to, int from, boolean negated) throws IndexOutOfBoundsException, IllegalStateException {
        Gate fed = gateAt(to);
        Gate source = gateAt(from);
        if (!fed.canBeFed()) {
            throw new IllegalStateException("the gate takes no feed");
        }
        if (feedCount >= MOST_FEEDS) {
            return NONE;
        }
        fed.addFeed(source, negated);
        feedCount++;
        forgetAll();
        return fed.feedCount;
    }

    public int cut(int gate) throws IndexOutOfBoundsException {
        int gone = gateAt(gate).dropFeeds();
        feedCount -= gone;
        forgetAll();
        return gone;
    }

    public int set(int gate, int v) throws IndexOutOfBoundsException, IllegalArgumentException {
        Gate input = gateAt(gate);
        if (input.sort != INPUT) {
            throw new IllegalArgumentException("the gate is no input");
        }
        if (v < 0 || v > UNKNOWN) {
            throw new IllegalArgumentException("no such value");
        }
        int before = input.held;
        input.held = v;
        valuesStale = true;
        return before;
    }

    public int value(int gate) throws IndexOutOfBoundsException {
        Gate asked = gateAt(gate);
        spreadKnown();
        return asked.value;
    }

    public int round(int gate) throws IndexOutOfBoundsException {
        Gate asked = gateAt(gate);
        spreadKnown();
        return asked.round;
    }

    public int step() {
        if (!settles()) {
            return NONE;
        }
        int changed = 0;
        for (int i = 0; i < gates.size(); i++) {
            if (gates.get(i).takeNextState()) {
                changed++;
            }
        }
        valuesStale = true;
        return changed;
    }

    public int reset() {
        int ones = 0;
        for (int i = 0; i < gates.size(); i++) {
            Gate g = gates.get(i);
            if (g.sort == LATCH && g.held == 1) {
                g.held = 0;
                ones++;
            }
        }
        valuesStale = true;
        return ones;
    }

    public int blame(int gate) throws IndexOutOfBoundsException {
        Gate asked = gateAt(gate);
        spreadKnown();
        if (asked.value != UNKNOWN) {
            return NONE;
        }
        return asked.sort == INPUT ? asked.number : asked.leastUnknownFeed();
    }

    public int cycle(int gate) throws IndexOutOfBoundsException {
        Gate asked = gateAt(gate);
        findParts();
        return asked.part;
    }

    public int choices() {
        findParts();
        return new Lanes(gates, parts.order).settlingChoices();
    }

    public int count(int what) {
        switch (what) {
            case 0:
                return gates.size();
            case 1:
                return feedCount;
            case 2:
                return inputCount;
            case 3:
                return latchCount;
            case 4:
                spreadKnown();
                return unknownCount;
            case 5:
                spreadKnown();
                return roundCount;
            case 6:
                findParts();
                return parts.cyclic;
            case 7:
                return settles() ? 1 : 0;
            default:
                return NONE;
        }
    }

    private Gate gateAt(int number) {
        if (number < 0 || number >= gates.size()) {
            throw new IndexOutOfBoundsException("no such gate");
        }
        return gates.get(number);
    }

    private void forgetAll() {
        valuesStale = true;
        partsStale = true;
    }

    // A latch's next value is the value of a gate, so it is known where all gates are.
    private boolean settles() {
        spreadKnown();
        return unknownCount == 0;
    }

    private void findParts() {
        if (partsStale) {
            parts.findIn(gates);
            partsStale = false;
        }
    }

    private void spreadKnown() {
        if (!valuesStale) {
            return;
        }
        startSpread();
        roundCount = 0;
        // Each round that goes on makes a gate known, so there are no more rounds than gates.
        for (int k = 1; k <= MOST_GATES; k++) {
            int added = spreadRound(k);
            if (added == 0) {
                break;
            }
            unknownCount -= added;
            roundCount = k;
        }
        valuesStale = false;
    }

    private void startSpread() {
        unknownCount = 0;
        for (int i = 0; i < gates.size(); i++) {
            Gate g = gates.get(i);
            g.value = g.held;
            g.round = g.held == UNKNOWN ? NONE : 0;
            if (g.held == UNKNOWN) {
                unknownCount++;
            }
        }
    }

    private int spreadRound(int k) {
        int added = 0;
        for (int i = 0; i < gates.size(); i++) {
            Gate g = gates.get(i);
            if (g.value == UNKNOWN && g.becomesKnown(k)) {
                added++;
            }
        }
        return added;
    }

    /** One feed in the chain of a gate's feeds. */
    private static final class Feed {
        final Gate from;
        final boolean negated;
        final Feed next;

        Feed(Gate from, boolean negated, Feed next) {
            this.from = from;
            this.negated = negated;
            this.next = next;
        }

        int takenValue() {
            if (from.value == UNKNOWN) {
                return UNKNOWN;
            }
            return negated ? 1 - from.value : from.value;
        }

        // What became known in round k itself must not be seen by the other gates of that round.
        int valueBefore(int k) {
            return from.round < k ? takenValue() : UNKNOWN;
        }

        long takenOnes() {
            return negated ? from.zeros : from.ones;
        }

        long takenZeros() {
            return negated ? from.ones : from.zeros;
        }
    }

    /** A gate, with the marks that the spreading, the search for parts and the lanes leave on it. */
    private static final class Gate {
        final int number;
        final int sort;
        Feed firstFeed = null;
        int feedCount = 0;

        // An input's given value or a latch's state; ands and ors hold nothing of their own.
        int held;
        int value;
        int round = NONE;

        int seenAt = NONE;
        int lowest = NONE;
        Feed toFollow = null;
        Gate cameFrom = null;
        Gate below = null;
        boolean open = false;
        boolean feedsItself = false;
        int part = NONE;

        long ones = 0;
        long zeros = 0;

        Gate(int number, int sort) {
            this.number = number;
            this.sort = sort;
            this.held = sort == LATCH ? 0 : UNKNOWN;
            this.value = this.held;
        }

        boolean isLogic() {
            return sort == AND || sort == OR;
        }

        boolean canBeFed() {
            return isLogic() || (sort == LATCH && feedCount == 0);
        }

        void addFeed(Gate from, boolean negated) {
            firstFeed = new Feed(from, negated, firstFeed);
            feedCount++;
        }

        int dropFeeds() {
            int gone = feedCount;
            firstFeed = null;
            feedCount = 0;
            return gone;
        }

        boolean becomesKnown(int k) {
            if (!isLogic()) {
                return false;
            }
            value = valueFromFeeds(k);
            if (value == UNKNOWN) {
                return false;
            }
            round = k;
            return true;
        }

        int valueFromFeeds(int k) {
            int deciding = sort == AND ? 0 : 1;
            boolean allKnown = true;
            for (Feed f = firstFeed; f != null; f = f.next) {
                int taken = f.valueBefore(k);
                if (taken == deciding) {
                    return deciding;
                }
                if (taken == UNKNOWN) {
                    allKnown = false;
                }
            }
            return allKnown ? 1 - deciding : UNKNOWN;
        }

        // Reads the spread values, not what is held: so all latches change at once.
        boolean takeNextState() {
            if (sort != LATCH || firstFeed == null) {
                return false;
            }
            held = firstFeed.takenValue();
            return held != value;
        }

        int leastUnknownFeed() {
            int least = NONE;
            for (Feed f = firstFeed; f != null; f = f.next) {
                if (f.from.value == UNKNOWN && (least == NONE || f.from.number < least)) {
                    least = f.from.number;
                }
            }
            return least;
        }

        boolean lanesGrow() {
            long onesBefore = ones;
            long zerosBefore = zeros;
            if (sort == AND) {
                takeLanesOfAnd();
            } else {
                takeLanesOfOr();
            }
            return ones != onesBefore || zeros != zerosBefore;
        }

        void takeLanesOfAnd() {
            long all = -1L;
            long any = 0L;
            for (Feed f = firstFeed; f != null; f = f.next) {
                all &= f.takenOnes();
                any |= f.takenZeros();
            }
            ones = all;
            zeros = any;
        }

        void takeLanesOfOr() {
            long all = -1L;
            long any = 0L;
            for (Feed f = firstFeed; f != null; f = f.next) {
                all &= f.takenZeros();
                any |= f.takenOnes();
            }
            ones = any;
            zeros = all;
        }
    }

    /**
     * The cycle parts, by Tarjan's walk from gates to what feeds them. The walk keeps its stacks as
     * chains through the gates, because a net can be deeper than calls may be nested.
     */
    private static final class Parts {
        // Every move of a walk leaves a gate or follows a feed, each at most once.
        private static final int MOST_MOVES = MOST_GATES + MOST_FEEDS;

        // Ands and ors, each behind what feeds it wherever no cycle forbids that.
        final ArrayList<Gate> order = new ArrayList<>();
        int cyclic = 0;
        private int seen = 0;
        private Gate topOpen = null;

        void findIn(ArrayList<Gate> gates) {
            order.clear();
            cyclic = 0;
            seen = 0;
            topOpen = null;
            for (int i = 0; i < gates.size(); i++) {
                gates.get(i).seenAt = NONE;
            }
            for (int i = 0; i < gates.size(); i++) {
                if (gates.get(i).seenAt == NONE) {
                    walkFrom(gates.get(i));
                }
            }
        }

        private void walkFrom(Gate start) {
            enter(start, null);
            Gate here = start;
            for (int moves = 0; here != null && moves < MOST_MOVES; moves++) {
                Feed f = here.toFollow;
                if (f == null) {
                    here = leave(here);
                } else {
                    here.toFollow = f.next;
                    here = follow(here, f.from);
                }
            }
        }

        private void enter(Gate g, Gate cameFrom) {
            g.seenAt = seen;
            g.lowest = seen;
            seen++;
            // What feeds a latch is no way of a cycle.
            g.toFollow = g.isLogic() ? g.firstFeed : null;
            g.cameFrom = cameFrom;
            g.feedsItself = false;
            g.open = true;
            g.below = topOpen;
            topOpen = g;
        }

        private Gate follow(Gate here, Gate from) {
            if (from.seenAt == NONE) {
                enter(from, here);
                return from;
            }
            if (from == here) {
                here.feedsItself = true;
            }
            if (from.open) {
                here.lowest = Math.min(here.lowest, from.seenAt);
            }
            return here;
        }

        private Gate leave(Gate g) {
            if (g.isLogic()) {
                order.add(g);
            }
            if (g.lowest == g.seenAt) {
                closePart(g);
            }
            Gate back = g.cameFrom;
            if (back != null) {
                back.lowest = Math.min(back.lowest, g.lowest);
            }
            return back;
        }

        private void closePart(Gate first) {
            Gate rest = first.below;
            boolean hasCycle = topOpen != first || first.feedsItself;
            int least = first.number;
            for (Gate g = topOpen; g != null && g != rest; g = g.below) {
                least = Math.min(least, g.number);
            }
            for (Gate g = topOpen; g != null && g != rest; g = g.below) {
                g.open = false;
                g.part = hasCycle ? least : NONE;
            }
            if (hasCycle) {
                cyclic++;
            }
            topOpen = rest;
        }
    }

    /**
     * Spreads 64 choices of the unknown inputs at a time, one in each bit of a long, since 4096
     * spreads one by one would make a call of choices some sixty times as dear.
     */
    private static final class Lanes {
        // Bit b of the row's entry i is bit i of b: together the six inputs get all 64 choices.
        private static final long[] LANE_BITS = {
            0xAAAAAAAAAAAAAAAAL,
            0xCCCCCCCCCCCCCCCCL,
            0xF0F0F0F0F0F0F0F0L,
            0xFF00FF00FF00FF00L,
            0xFFFF0000FFFF0000L,
            0xFFFFFFFF00000000L
        };

        // Every pass but the last makes a gate known in one more of the 64 lanes.
        private static final int MOST_PASSES = MOST_GATES * 64 + 1;

        private final ArrayList<Gate> gates;
        private final ArrayList<Gate> order;

        Lanes(ArrayList<Gate> gates, ArrayList<Gate> order) {
            this.gates = gates;
            this.order = order;
        }

        int settlingChoices() {
            int free = freeInputs();
            int batches = free > LANE_BITS.length ? 1 << (free - LANE_BITS.length) : 1;
            // With fewer than six free inputs the lanes tell the same choices again and again.
            long counted = free >= LANE_BITS.length ? -1L : (1L << (1 << free)) - 1;
            int settling = 0;
            for (int batch = 0; batch < batches; batch++) {
                startBatch(batch);
                spreadLanes();
                settling += Long.bitCount(lanesAllKnown() & counted);
            }
            return settling;
        }

        private int freeInputs() {
            int free = 0;
            for (int i = 0; i < gates.size(); i++) {
                if (isFree(gates.get(i))) {
                    free++;
                }
            }
            return free;
        }

        private boolean isFree(Gate g) {
            return g.sort == INPUT && g.held == UNKNOWN;
        }

        private void startBatch(int batch) {
            int place = 0;
            for (int i = 0; i < gates.size(); i++) {
                Gate g = gates.get(i);
                if (isFree(g)) {
                    g.ones = lanesOfInput(place, batch);
                    g.zeros = ~g.ones;
                    place++;
                } else {
                    g.ones = g.held == 1 ? -1L : 0L;
                    g.zeros = g.held == 0 ? -1L : 0L;
                }
            }
        }

        private long lanesOfInput(int place, int batch) {
            if (place >= 0 && place < LANE_BITS.length) {
                return LANE_BITS[place];
            }
            int bit = (batch >> (place - LANE_BITS.length)) & 1;
            return bit == 1 ? -1L : 0L;
        }

        // Forwards one pass does all that is outside cycles; going back in turn keeps the passes few
        // where a cycle runs against the order.
        private void spreadLanes() {
            boolean grown = true;
            for (int pass = 0; grown && pass < MOST_PASSES; pass++) {
                grown = (pass & 1) == 0 ? passForwards() : passBackwards();
            }
        }

        private boolean passForwards() {
            boolean grown = false;
            for (int i = 0; i < order.size(); i++) {
                if (order.get(i).lanesGrow()) {
                    grown = true;
                }
            }
            return grown;
        }

        private boolean passBackwards() {
            boolean grown = false;
            for (int i = order.size() - 1; i >= 0; i--) {
                if (order.get(i).lanesGrow()) {
                    grown = true;
                }
            }
            return grown;
        }

        private long lanesAllKnown() {
            long known = -1L;
            for (int i = 0; i < gates.size(); i++) {
                Gate g = gates.get(i);
                known &= g.ones | g.zeros;
            }
            return known;
        }
    }
}
