import java.util.Set;
import java.util.TreeSet;

/** Arguments to try at a bound, beside it and far from it. */
final class Edges {
    static final int MIN = Integer.MIN_VALUE;
    static final int MAX = Integer.MAX_VALUE;

    // The powers of two, and those next to them, come back into the bounds when a product or a sum wraps around.
    private static final int[] FAR = {
        MIN, MIN + 1, -(1 << 30), -(1 << 28), -1000000, -64, 256, 65536, 1 << 26, 1 << 28, (1 << 28) + 1, 1 << 30,
        MAX - 1000000, MAX - 1, MAX};

    private Edges() {
    }

    /** Each bound, the number below it, the one above it, and numbers far from all bounds; none twice. */
    static int[] around(int... bounds) {
        Set<Integer> edges = new TreeSet<>();
        for (int bound : bounds) {
            edges.add(bound - 1);
            edges.add(bound);
            edges.add(bound + 1);
        }
        for (int far : FAR) {
            edges.add(far);
        }
        int[] all = new int[edges.size()];
        int i = 0;
        for (int edge : edges) {
            all[i++] = edge;
        }
        return all;
    }
}
