import java.util.ArrayList;

/** The document's words as slowly and plainly as they can be told, to compare the class with. */
final class PlainNet {
    private static final class Feed {
        int to;
        int from;
        boolean negated;
    }

    private final ArrayList<Integer> sorts = new ArrayList<>();
    private final ArrayList<Integer> held = new ArrayList<>();
    private final ArrayList<Feed> feeds = new ArrayList<>();
    private int[] values;
    private int[] rounds;
    private int lastRound;

    int gate(int sort) {
        if (sort < 0 || sort > 3) {
            throw new IllegalArgumentException();
        }
        if (sorts.size() == 600 || sort == 0 && ofSort(0) == 12) {
            return -1;
        }
        sorts.add(sort);
        held.add(sort == 1 ? 0 : 2);
        return sorts.size() - 1;
    }

    int feed(int to, int from, boolean negated) {
        there(to);
        there(from);
        if (sorts.get(to) == 0 || sorts.get(to) == 1 && feedsOf(to) > 0) {
            throw new IllegalStateException();
        }
        if (feeds.size() == 2400) {
            return -1;
        }
        Feed f = new Feed();
        f.to = to;
        f.from = from;
        f.negated = negated;
        feeds.add(f);
        return feedsOf(to);
    }

    int cut(int gate) {
        there(gate);
        int had = feedsOf(gate);
        feeds.removeIf(f -> f.to == gate);
        return had;
    }

    int set(int gate, int v) {
        there(gate);
        if (sorts.get(gate) != 0 || v < 0 || v > 2) {
            throw new IllegalArgumentException();
        }
        return held.set(gate, v);
    }

    int value(int gate) {
        there(gate);
        spread();
        return values[gate];
    }

    int round(int gate) {
        there(gate);
        spread();
        return rounds[gate];
    }

    int step() {
        if (!settled()) {
            return -1;
        }
        int changed = 0;
        for (Feed f : feeds) {
            if (sorts.get(f.to) == 1) {
                int next = taken(f, values);
                changed += held.set(f.to, next) == next ? 0 : 1;
            }
        }
        return changed;
    }

    int reset() {
        int ones = 0;
        for (int i = 0; i < sorts.size(); i++) {
            if (sorts.get(i) == 1) {
                ones += held.set(i, 0);
            }
        }
        return ones;
    }

    int blame(int gate) {
        there(gate);
        spread();
        if (values[gate] != 2) {
            return -1;
        }
        int least = sorts.get(gate) == 0 ? gate : Integer.MAX_VALUE;
        for (Feed f : feeds) {
            if (f.to == gate && values[f.from] == 2) {
                least = Math.min(least, f.from);
            }
        }
        return least;
    }

    int cycle(int gate) {
        there(gate);
        boolean[] after = reachedFrom(gate);
        for (int i = 0; i < sorts.size(); i++) {
            if (after[i] && reachedFrom(i)[gate]) {
                return i;
            }
        }
        return -1;
    }

    int choices() {
        int free = held.indexOf(2);
        while (free >= 0 && sorts.get(free) != 0) {
            int more = held.subList(free + 1, held.size()).indexOf(2);
            free = more < 0 ? -1 : free + 1 + more;
        }
        if (free < 0) {
            return settled() ? 1 : 0;
        }
        int settling = 0;
        for (int v = 0; v <= 1; v++) {
            held.set(free, v);
            settling += choices();
        }
        held.set(free, 2);
        return settling;
    }

    int count(int what) {
        spread();
        switch (what) {
            case 0:
                return sorts.size();
            case 1:
                return feeds.size();
            case 2:
                return ofSort(0);
            case 3:
                return ofSort(1);
            case 4:
                return unknown();
            case 5:
                return lastRound;
            case 6:
                int parts = 0;
                for (int i = 0; i < sorts.size(); i++) {
                    parts += cycle(i) == i ? 1 : 0;
                }
                return parts;
            case 7:
                return settled() ? 1 : 0;
            default:
                return -1;
        }
    }

    boolean isInput(int gate) {
        return sorts.get(gate) == 0;
    }

    private void there(int gate) {
        if (gate < 0 || gate >= sorts.size()) {
            throw new IndexOutOfBoundsException();
        }
    }

    private int ofSort(int sort) {
        int n = 0;
        for (int s : sorts) {
            n += s == sort ? 1 : 0;
        }
        return n;
    }

    private int feedsOf(int gate) {
        int n = 0;
        for (Feed f : feeds) {
            n += f.to == gate ? 1 : 0;
        }
        return n;
    }

    private static int taken(Feed f, int[] from) {
        int v = from[f.from];
        return v != 2 && f.negated ? 1 - v : v;
    }

    private void spread() {
        int n = sorts.size();
        values = new int[n];
        rounds = new int[n];
        for (int i = 0; i < n; i++) {
            values[i] = held.get(i);
            rounds[i] = values[i] == 2 ? -1 : 0;
        }
        lastRound = 0;
        boolean added = true;
        for (int k = 1; added; k++) {
            added = false;
            int[] before = values.clone();
            boolean[] zero = new boolean[n];
            boolean[] one = new boolean[n];
            boolean[] open = new boolean[n];
            for (Feed f : feeds) {
                int v = taken(f, before);
                zero[f.to] |= v == 0;
                one[f.to] |= v == 1;
                open[f.to] |= v == 2;
            }
            for (int i = 0; i < n; i++) {
                if (before[i] != 2 || sorts.get(i) < 2) {
                    continue;
                }
                int v = sorts.get(i) == 2
                    ? (zero[i] ? 0 : open[i] ? 2 : 1)
                    : (one[i] ? 1 : open[i] ? 2 : 0);
                if (v != 2) {
                    values[i] = v;
                    rounds[i] = k;
                    lastRound = k;
                    added = true;
                }
            }
        }
    }

    private int unknown() {
        int n = 0;
        for (int v : values) {
            n += v == 2 ? 1 : 0;
        }
        return n;
    }

    private boolean settled() {
        spread();
        boolean nextKnown = true;
        for (Feed f : feeds) {
            nextKnown &= sorts.get(f.to) != 1 || taken(f, values) != 2;
        }
        return unknown() == 0 && nextKnown;
    }

    /** What is reached over one feed of an and or an or, or more. */
    private boolean[] reachedFrom(int gate) {
        boolean[] reached = new boolean[sorts.size()];
        boolean more = true;
        while (more) {
            more = false;
            for (Feed f : feeds) {
                if (sorts.get(f.to) >= 2 && !reached[f.to] && (f.from == gate || reached[f.from])) {
                    reached[f.to] = true;
                    more = true;
                }
            }
        }
        return reached;
    }
}
