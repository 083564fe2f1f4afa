import java.util.ArrayList;
import java.util.List;

/** With a few rows, every way to give them values can be written down: the document's words, done as they stand. */
final class AllWaysTest {
    private static final int MOST_ROWS = 3;

    private final Dice dice;
    private final CountLearner learner = new CountLearner();
    private final List<int[]> sights = new ArrayList<>();
    private int rows = 0;
    private int room = 40;

    private AllWaysTest(long seed) {
        dice = new Dice(seed);
    }

    public static void main(String[] args) {
        for (int run = 1; run <= 60; run++) {
            new AllWaysTest(run).run("run " + run);
        }
        Due.end();
    }

    private void run(String run) {
        start();
        for (int step = 0; step < 12; step++) {
            change();
            compare(run + ", step " + step);
        }
    }

    private void start() {
        rows = dice.from(0, MOST_ROWS);
        learner.rows(0, rows);
    }

    private void change() {
        int kind = dice.from(0, 9);
        if (kind == 0 && rows < MOST_ROWS) {
            rows++;
            learner.put(0, 1);
            for (int[] sight : sights) {
                sight[3] = sight[3] == 1000001 ? sight[3] : sight[3] + 1;
            }
        } else if (kind == 1 && rows > 0) {
            rows--;
            learner.strike(0, 1);
            for (int[] sight : sights) {
                sight[2] = Math.max(0, sight[2] - 1);
            }
        } else if (kind == 2) {
            room = dice.from(1, 12);
            learner.room(0, room);
        } else {
            int a = dice.from(0, 64);
            int b = dice.from(a, 64);
            int count = dice.from(0, rows);
            boolean atLeast = dice.once(3);
            learner.sight(0, a, b, count, atLeast);
            sights.add(new int[] {a, b, count, atLeast ? 1000001 : count});
        }
    }

    private void compare(String when) {
        List<int[]> ways = new ArrayList<>();
        addWays(ways, new int[rows], 0, 0);
        for (int s = sights.size() - 1; s >= 0; s--) {
            int how = 2;
            if (sights.size() - s <= room) {
                List<int[]> left = agreeing(ways, sights.get(s));
                how = left.isEmpty() ? 1 : 0;
                ways = left.isEmpty() ? ways : left;
            }
            Due.is(when + ", sight " + s, learner.sightOf(0, s, 4), how);
        }
        for (int i = 0; i < 25; i++) {
            int a = dice.from(0, 64);
            spans(when, ways, a, dice.from(a, 64));
        }
        guesses(when, ways);
    }

    /** All ways from one value on; a way is the values of its rows, none less than the one before. */
    private void addWays(List<int[]> ways, int[] way, int row, int value) {
        if (row == rows) {
            ways.add(way.clone());
            return;
        }
        for (int v = value; v < 64; v++) {
            way[row] = v;
            addWays(ways, way, row + 1, v);
        }
    }

    private static List<int[]> agreeing(List<int[]> ways, int[] sight) {
        List<int[]> left = new ArrayList<>();
        for (int[] way : ways) {
            int held = inSpan(way, sight[0], sight[1]);
            if (held >= sight[2] && held <= sight[3]) {
                left.add(way);
            }
        }
        return left;
    }

    private static int inSpan(int[] way, int a, int b) {
        int held = 0;
        for (int value : way) {
            held += value >= a && value < b ? 1 : 0;
        }
        return held;
    }

    private void spans(String when, List<int[]> ways, int a, int b) {
        int least = Integer.MAX_VALUE;
        int greatest = 0;
        for (int[] way : ways) {
            least = Math.min(least, inSpan(way, a, b));
            greatest = Math.max(greatest, inSpan(way, a, b));
        }
        Due.is(when + ", least(" + a + ", " + b + ")", learner.least(0, a, b), least);
        Due.is(when + ", greatest(" + a + ", " + b + ")", learner.greatest(0, a, b), greatest);
    }

    private void guesses(String when, List<int[]> all) {
        List<int[]> ways = all;
        int below = 0;
        for (int value = 0; value < 64; value++) {
            int least = Integer.MAX_VALUE;
            int greatest = 0;
            for (int[] way : ways) {
                least = Math.min(least, inSpan(way, 0, value + 1));
                greatest = Math.max(greatest, inSpan(way, 0, value + 1));
            }
            int even = below + (rows - below) / (64 - value);
            int next = Math.min(Math.max(even, least), greatest);
            Due.is(when + ", guess(" + value + ")", learner.guess(0, value, value + 1), next - below);
            ways = agreeing(ways, new int[] {0, value + 1, next, next});
            below = next;
        }
    }
}
