import java.util.ArrayList;
import java.util.List;

/**
 * The document once more, with other means: all greatest steps between any two marks stand in one square,
 * and each new bound is tried against the whole of it. Nothing is kept from one call to the next.
 */
final class SlowModel {
    private static final int[][] ORDERS = {{0, 1, 2}, {0, 2, 1}, {1, 0, 2}, {1, 2, 0}, {2, 0, 1}, {2, 1, 0}};

    private final int[] rows = new int[3];
    private final int[] room = {40, 40, 40};
    private final int[][] truth = new int[3][64];
    private final List<List<int[]>> sights = new ArrayList<>();

    SlowModel() {
        for (int t = 0; t < 3; t++) {
            sights.add(new ArrayList<>());
        }
    }

    private static boolean in(int x, int low, int high) {
        return x >= low && x <= high;
    }

    private static boolean span(int t, int a, int b) {
        return in(t, 0, 2) && in(a, 0, b) && in(b, a, 64);
    }

    int rowsNow(int t) {
        return rows[t];
    }

    long rows(int t, int many) {
        if (!in(t, 0, 2) || !in(many, 0, 1000000)) {
            return 0;
        }
        rows[t] = many;
        sights.get(t).clear();
        return 1;
    }

    long put(int t, int many) {
        if (!in(t, 0, 2) || many < 1 || (long) rows[t] + many > 1000000) {
            return -1;
        }
        for (int[] s : sights.get(t)) {
            s[3] = s[3] > 1000000 ? s[3] : Math.min(1000000, s[3] + many);
        }
        return rows[t] += many;
    }

    long strike(int t, int many) {
        if (!in(t, 0, 2) || many < 1 || many > rows[t]) {
            return -1;
        }
        for (int[] s : sights.get(t)) {
            s[2] = Math.max(0, s[2] - many);
        }
        return rows[t] -= many;
    }

    long sight(int t, int a, int b, int count, boolean atLeast) {
        if (!span(t, a, b) || !in(count, 0, rows[t]) || sights.get(t).size() == 40) {
            return -1;
        }
        sights.get(t).add(new int[] {a, b, count, atLeast ? 1000001 : count});
        return sights.get(t).size() - 1;
    }

    long begins(int t, int n, int v, int count) {
        if (!in(n, 0, 3)) {
            return -1;
        }
        int width = n == 0 ? 64 : n == 1 ? 16 : n == 2 ? 4 : 1;
        return in(v, 0, 64 / width - 1) ? sight(t, v * width, (v + 1) * width, count, false) : -1;
    }

    long room(int t, int many) {
        if (!in(t, 0, 2) || !in(many, 1, 40)) {
            return 0;
        }
        room[t] = many;
        return 1;
    }

    long sightOf(int t, int s, int what) {
        if (!in(t, 0, 2) || !in(what, 0, 4) || !in(s, 0, sights.get(t).size() - 1)) {
            return -1;
        }
        return what == 4 ? states(t, square(t))[s] : sights.get(t).get(s)[what];
    }

    long least(int t, int a, int b) {
        return span(t, a, b) ? -settled(t)[b][a] : -1;
    }

    long greatest(int t, int a, int b) {
        return span(t, a, b) ? settled(t)[a][b] : -1;
    }

    long guess(int t, int a, int b) {
        if (!span(t, a, b)) {
            return -1;
        }
        long sum = 0;
        long[] each = guesses(t);
        for (int v = a; v < b; v++) {
            sum += each[v];
        }
        return sum;
    }

    long join(int t, int u, int a, int b) {
        if (!span(t, a, b) || !in(u, 0, 2)) {
            return -1;
        }
        long sum = 0;
        long[] one = guesses(t);
        long[] other = guesses(u);
        for (int v = a; v < b; v++) {
            sum += one[v] * other[v];
        }
        return sum;
    }

    long truth(int t, int value, int many) {
        if (!in(t, 0, 2) || !in(value, 0, 63) || !in(many, 0, 100000)) {
            return 0;
        }
        truth[t][value] = many;
        return 1;
    }

    long agrees(int t) {
        if (!in(t, 0, 2)) {
            return -1;
        }
        int[] how = states(t, square(t));
        boolean yes = truly(t, 0, 64) == rows[t];
        for (int s = 0; s < how.length; s++) {
            int[] sight = sights.get(t).get(s);
            long held = truly(t, sight[0], sight[1]);
            yes &= how[s] != 0 || held >= sight[2] && (held <= sight[3] || sight[3] > 1000000);
        }
        return yes ? 1 : 0;
    }

    private long truly(int t, int a, int b) {
        long sum = 0;
        for (int v = a; v < b; v++) {
            sum += truth[t][v];
        }
        return sum;
    }

    long cost(int order, boolean byTruth) {
        return in(order, 0, 5) ? costs(byTruth)[order] : -1;
    }

    private long[] costs(boolean byTruth) {
        long[][] each = new long[3][64];
        for (int t = 0; t < 3; t++) {
            long[] guessed = guesses(t);
            for (int v = 0; v < 64; v++) {
                each[t][v] = byTruth ? truth[t][v] : guessed[v];
            }
        }
        long[] costs = new long[6];
        for (int order = 0; order < 6; order++) {
            for (int v = 0; v < 64; v++) {
                costs[order] += each[ORDERS[order][0]][v] * each[ORDERS[order][1]][v];
                costs[order] += each[0][v] * each[1][v] * each[2][v];
            }
        }
        return costs;
    }

    long plan(boolean byTruth) {
        return first(costs(byTruth));
    }

    private static int first(long[] costs) {
        int best = 5;
        for (int order = 4; order >= 0; order--) {
            best = costs[order] <= costs[best] ? order : best;
        }
        return best;
    }

    long lost() {
        long[] true0 = costs(true);
        return true0[first(costs(false))] - true0[first(true0)];
    }

    long table(int t, int what) {
        if (!in(t, 0, 2) || !in(what, 0, 5)) {
            return -1;
        }
        if (what == 0 || what == 5) {
            return what == 0 ? rows[t] : room[t];
        }
        int many = 0;
        for (int how : states(t, square(t))) {
            many += what == 1 || how == what - 2 ? 1 : 0;
        }
        return many;
    }

    /** Square[i][j] is the greatest that mark j can be above mark i, before any sight. */
    private long[][] square(int t) {
        long[][] square = new long[65][65];
        for (int i = 0; i <= 64; i++) {
            for (int j = i + 1; j <= 64; j++) {
                square[i][j] = rows[t];
            }
        }
        square[64][0] = -rows[t];
        return square;
    }

    private long[][] settled(int t) {
        long[][] square = square(t);
        states(t, square);
        return square;
    }

    /** How each sight is; the square is made to agree with those that are kept. */
    private int[] states(int t, long[][] square) {
        int[] how = new int[sights.get(t).size()];
        for (int s = how.length - 1; s >= 0; s--) {
            int[] sight = sights.get(t).get(s);
            int a = sight[0];
            int b = sight[1];
            if (how.length - s > room[t]) {
                how[s] = 2;
            } else if (Math.max(sight[2], -square[b][a]) > Math.min(sight[3], square[a][b])) {
                how[s] = 1;
            } else {
                bound(square, a, b, sight[3]);
                bound(square, b, a, -sight[2]);
            }
        }
        return how;
    }

    private static void bound(long[][] square, int i, int j, long most) {
        if (most >= square[i][j]) {
            return;
        }
        for (int p = 0; p <= 64; p++) {
            for (int q = 0; q <= 64; q++) {
                square[p][q] = Math.min(square[p][q], square[p][i] + most + square[j][q]);
            }
        }
    }

    private long[] guesses(int t) {
        long[][] square = settled(t);
        long[] each = new long[64];
        long below = 0;
        for (int v = 0; v < 64; v++) {
            long even = below + (rows[t] - below) / (64 - v);
            long next = Math.min(Math.max(even, -square[v + 1][0]), square[0][v + 1]);
            bound(square, 0, v + 1, next);
            bound(square, v + 1, 0, -next);
            each[v] = next - below;
            below = next;
        }
        return each;
    }
}
