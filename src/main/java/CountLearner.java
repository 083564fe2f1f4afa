import java.util.Arrays;

/** Learns how many rows of a table have a value in a span, from what questions truly gave. */
public final class CountLearner {
    public static final int NONE = -1;

    private static final int TABLES = 3;
    private static final int VALUES = 64;
    private static final int MOST_ROWS = 1000000;
    private static final int NO_BOUND = 1000001;
    private static final int MOST_SIGHTS = 40;
    private static final int MOST_TRUTH = 100000;
    private static final int LETTERS = 3;
    private static final int ORDERS = 6;
    private static final int[] ORDER_TABLES = {
        0, 1, 2,
        0, 2, 1,
        1, 0, 2,
        1, 2, 0,
        2, 0, 1,
        2, 1, 0
    };

    private static final int KEPT = 0;
    private static final int IN_QUARREL = 1;
    private static final int MELTED = 2;

    // A chain of bounds that comes to no mark twice has at most VALUES links,
    // and each pass goes at least one link on: more passes than this change nothing.
    private static final int PASSES = VALUES + 2;

    private final Table[] tables;

    public CountLearner() {
        tables = new Table[TABLES];
        for (int i = 0; i < TABLES; i++) {
            tables[i] = new Table();
        }
    }

    public boolean rows(int table, int many) {
        Table t = tableAt(table);
        if (t == null || many < 0 || many > MOST_ROWS) {
            return false;
        }
        t.startAnew(many);
        return true;
    }

    public int put(int table, int many) {
        Table t = tableAt(table);
        if (t == null || many < 1 || many > MOST_ROWS - t.rows) {
            return NONE;
        }
        t.grow(many);
        return t.rows;
    }

    public int strike(int table, int many) {
        Table t = tableAt(table);
        if (t == null || many < 1 || many > t.rows) {
            return NONE;
        }
        t.shrink(many);
        return t.rows;
    }

    public int sight(int table, int a, int b, int count, boolean atLeast) {
        Table t = tableAt(table);
        if (t == null || !isSpan(a, b) || count < 0 || count > t.rows) {
            return NONE;
        }
        return t.addSight(a, b, count, atLeast ? NO_BOUND : count);
    }

    public int begins(int table, int n, int v, int count) {
        if (n < 0 || n > LETTERS || v < 0 || v >= textsOf(n)) {
            return NONE;
        }
        int width = textsOf(LETTERS - n);
        int a = v * width;
        return sight(table, a, a + width, count, false);
    }

    public boolean room(int table, int many) {
        Table t = tableAt(table);
        if (t == null || many < 1 || many > MOST_SIGHTS) {
            return false;
        }
        t.makeRoom(many);
        return true;
    }

    public int sightOf(int table, int sight, int what) {
        Table t = tableAt(table);
        if (t == null || sight < 0 || sight >= t.sights) {
            return NONE;
        }
        switch (what) {
            case 0:
                return t.from[sight];
            case 1:
                return t.to[sight];
            case 2:
                return t.fewest[sight];
            case 3:
                return t.most[sight];
            case 4:
                t.settle();
                return t.how[sight];
            default:
                return NONE;
        }
    }

    public int least(int table, int a, int b) {
        Table t = tableAt(table);
        if (t == null || !isSpan(a, b)) {
            return NONE;
        }
        return t.leastStep(a, b);
    }

    public int greatest(int table, int a, int b) {
        Table t = tableAt(table);
        if (t == null || !isSpan(a, b)) {
            return NONE;
        }
        return -t.leastStep(b, a);
    }

    public int guess(int table, int a, int b) {
        Table t = tableAt(table);
        if (t == null || !isSpan(a, b)) {
            return NONE;
        }
        t.spread();
        return t.guessed[b] - t.guessed[a];
    }

    public long join(int t, int u, int a, int b) {
        Table one = tableAt(t);
        Table other = tableAt(u);
        if (one == null || other == null || !isSpan(a, b)) {
            return NONE;
        }
        one.spread();
        other.spread();
        long sum = 0;
        for (int value = a; value < b; value++) {
            sum += one.rowsOf(value, false) * other.rowsOf(value, false);
        }
        return sum;
    }

    public boolean truth(int table, int value, int many) {
        Table t = tableAt(table);
        if (t == null || value < 0 || value >= VALUES || many < 0 || many > MOST_TRUTH) {
            return false;
        }
        t.truly[value] = many;
        return true;
    }

    public int agrees(int table) {
        Table t = tableAt(table);
        if (t == null) {
            return NONE;
        }
        return t.trulyAgrees() ? 1 : 0;
    }

    public long cost(int order, boolean truth) {
        if (order < 0 || order >= ORDERS) {
            return NONE;
        }
        spreadAll();
        return costOf(order, truth);
    }

    public int plan(boolean truth) {
        spreadAll();
        return cheapest(truth);
    }

    public long lost() {
        spreadAll();
        return costOf(cheapest(false), true) - costOf(cheapest(true), true);
    }

    public int table(int table, int what) {
        Table t = tableAt(table);
        if (t == null) {
            return NONE;
        }
        switch (what) {
            case 0:
                return t.rows;
            case 1:
                return t.sights;
            case 2:
                return t.sightsThatAre(KEPT);
            case 3:
                return t.sightsThatAre(IN_QUARREL);
            case 4:
                return t.sightsThatAre(MELTED);
            case 5:
                return t.places;
            default:
                return NONE;
        }
    }

    private Table tableAt(int table) {
        return table >= 0 && table < TABLES ? tables[table] : null;
    }

    private static boolean isSpan(int a, int b) {
        return 0 <= a && a <= b && b <= VALUES;
    }

    private static int textsOf(int letters) {
        return 1 << (2 * letters);
    }

    private void spreadAll() {
        for (int i = 0; i < TABLES; i++) {
            tables[i].spread();
        }
    }

    private int cheapest(boolean byTruth) {
        int best = 0;
        long bestCost = costOf(0, byTruth);
        for (int order = 1; order < ORDERS; order++) {
            long cost = costOf(order, byTruth);
            if (cost < bestCost) {
                best = order;
                bestCost = cost;
            }
        }
        return best;
    }

    private long costOf(int order, boolean byTruth) {
        Table x = tables[ORDER_TABLES[3 * order]];
        Table y = tables[ORDER_TABLES[3 * order + 1]];
        Table z = tables[ORDER_TABLES[3 * order + 2]];
        long sum = 0;
        for (int value = 0; value < VALUES; value++) {
            long pairs = x.rowsOf(value, byTruth) * y.rowsOf(value, byTruth);
            sum += pairs + pairs * z.rowsOf(value, byTruth);
        }
        return sum;
    }

    /**
     * One table. A way to give each value its rows is held as marks 0 to VALUES: mark i is how many
     * rows are below value i, so that a span's rows are the step from its one mark to its other.
     */
    private static final class Table {
        int rows = 0;
        int sights = 0;
        int places = MOST_SIGHTS;
        final int[] from = new int[MOST_SIGHTS];
        final int[] to = new int[MOST_SIGHTS];
        final int[] fewest = new int[MOST_SIGHTS];
        final int[] most = new int[MOST_SIGHTS];
        final int[] how = new int[MOST_SIGHTS];
        final int[] truly = new int[VALUES];
        final int[] guessed = new int[VALUES + 1];
        private final int[] lowest = new int[VALUES + 1];
        private final int[] work = new int[VALUES + 1];
        private boolean isSettled = false;
        private boolean isSpread = false;

        void startAnew(int many) {
            rows = many;
            sights = 0;
            forget();
        }

        void grow(int many) {
            rows += many;
            for (int s = 0; s < sights; s++) {
                if (most[s] != NO_BOUND) {
                    most[s] = Math.min(most[s] + many, MOST_ROWS);
                }
            }
            forget();
        }

        void shrink(int many) {
            rows -= many;
            for (int s = 0; s < sights; s++) {
                fewest[s] = Math.max(fewest[s] - many, 0);
            }
            forget();
        }

        /** The new sight's number; NONE if there is no place for one more. */
        int addSight(int a, int b, int least, int greatest) {
            int number = sights;
            if (number >= MOST_SIGHTS) {
                return NONE;
            }
            from[number] = a;
            to[number] = b;
            fewest[number] = least;
            most[number] = greatest;
            sights = number + 1;
            forget();
            return number;
        }

        void makeRoom(int many) {
            places = many;
            forget();
        }

        int sightsThatAre(int state) {
            settle();
            int many = 0;
            for (int s = 0; s < sights; s++) {
                if (how[s] == state) {
                    many++;
                }
            }
            return many;
        }

        long rowsOf(int value, boolean byTruth) {
            return byTruth ? truly[value] : guessed[value + 1] - guessed[value];
        }

        boolean trulyAgrees() {
            settle();
            work[0] = 0;
            for (int value = 0; value < VALUES; value++) {
                work[value + 1] = work[value] + truly[value];
            }
            if (work[VALUES] != rows) {
                return false;
            }
            for (int s = 0; s < sights; s++) {
                int held = work[to[s]] - work[from[s]];
                if (how[s] == KEPT && (held < fewest[s] || held > most[s])) {
                    return false;
                }
            }
            return true;
        }

        /** Tells how each sight is, and leaves the lowest way that agrees with all that are kept. */
        void settle() {
            if (isSettled) {
                return;
            }
            Arrays.fill(how, MELTED);
            Arrays.fill(lowest, 0);
            lowest[VALUES] = rows;
            int oldest = Math.max(sights - places, 0);
            for (int s = sights - 1; s >= oldest; s--) {
                how[s] = fits(s) ? KEPT : IN_QUARREL;
            }
            isSettled = true;
        }

        /** The least step from one mark to another, which may be the lower one, over all ways. */
        int leastStep(int start, int end) {
            settle();
            for (int mark = 0; mark <= VALUES; mark++) {
                work[mark] = mark < start ? -rows : 0;
            }
            climb(work, start, 0);
            return work[end];
        }

        /** Makes the guessed way, mark by mark, each as even as the marks before it let it be. */
        void spread() {
            if (isSpread) {
                return;
            }
            settle();
            System.arraycopy(lowest, 0, guessed, 0, VALUES + 1);
            int[] highest = work;
            Arrays.fill(highest, rows);
            highest[0] = 0;
            sink(highest);
            for (int left = VALUES; left > 0; left--) {
                int below = guessed[VALUES - left];
                int next = VALUES - left + 1;
                int even = below + (rows - below) / left;
                int goal = Math.min(Math.max(even, guessed[next]), highest[next]);
                if (raise(guessed, next, goal)) {
                    climb(guessed, next, goal);
                }
                if (lower(highest, next, goal)) {
                    sink(highest);
                }
            }
            isSpread = true;
        }

        private void forget() {
            isSettled = false;
            isSpread = false;
        }

        /**
         * Whether a sight can be with those kept so far; if so, the lowest way is made to agree with it.
         * One end is moved to where the sight wants it. If that drives the other end on too, the step
         * between them can't be had.
         */
        private boolean fits(int s) {
            int a = from[s];
            int b = to[s];
            int step = lowest[b] - lowest[a];
            if (step >= fewest[s] && step <= most[s]) {
                return true;
            }
            boolean tooFew = step < fewest[s];
            int moved = tooFew ? b : a;
            int fixed = tooFew ? a : b;
            int goal = tooFew ? lowest[a] + fewest[s] : lowest[b] - most[s];
            System.arraycopy(lowest, 0, work, 0, VALUES + 1);
            raise(work, moved, goal);
            if (!climb(work, fixed, lowest[fixed])) {
                return false;
            }
            System.arraycopy(work, 0, lowest, 0, VALUES + 1);
            return true;
        }

        /**
         * Raises marks as little as makes them agree with the rows and all that is kept. Gives up, and
         * answers false, when the fixed mark would go above its height. "No bound" needs no care: it is
         * above what the rows allow anyway.
         */
        private boolean climb(int[] way, int fixed, int height) {
            boolean changed = true;
            for (int pass = 0; pass < PASSES && changed && way[fixed] <= height; pass++) {
                changed = raise(way, 0, way[VALUES] - rows);
                if (raise(way, VALUES, way[0] + rows)) {
                    changed = true;
                }
                for (int s = 0; s < sights; s++) {
                    if (how[s] != KEPT) {
                        continue;
                    }
                    if (raise(way, to[s], way[from[s]] + fewest[s])) {
                        changed = true;
                    }
                    if (raise(way, from[s], way[to[s]] - most[s])) {
                        changed = true;
                    }
                }
            }
            return way[fixed] <= height;
        }

        /** Lowers marks as little as makes them agree with all that is kept; the first and last are right already. */
        private void sink(int[] way) {
            boolean changed = true;
            for (int pass = 0; pass < PASSES && changed; pass++) {
                changed = false;
                for (int s = 0; s < sights; s++) {
                    if (how[s] != KEPT) {
                        continue;
                    }
                    if (lower(way, from[s], way[to[s]] - fewest[s])) {
                        changed = true;
                    }
                    if (lower(way, to[s], way[from[s]] + most[s])) {
                        changed = true;
                    }
                }
            }
        }

        // Marks never fall from one to the next, so a raised one lifts those after it that are lower.
        private static boolean raise(int[] way, int mark, int height) {
            boolean changed = false;
            for (int i = mark; i <= VALUES && way[i] < height; i++) {
                way[i] = height;
                changed = true;
            }
            return changed;
        }

        private static boolean lower(int[] way, int mark, int height) {
            boolean changed = false;
            for (int i = mark; i >= 0 && way[i] > height; i--) {
                way[i] = height;
                changed = true;
            }
            return changed;
        }
    }
}
