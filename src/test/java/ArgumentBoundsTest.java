import java.util.Arrays;
import java.util.function.IntFunction;

/**
 * Each argument of each call by itself: at its bounds, beside them on either side, and far from them, the least and
 * the greatest int among them. A refused call answers NONE or false, and after it everything is as before.
 */
final class ArgumentBoundsTest {
    private static final int NO = 0;
    private static final int NONE = CountLearner.NONE;

    private final Starts start;
    private final long[] before;

    private ArgumentBoundsTest(Starts start) {
        this.start = start;
        before = AllAnswers.of(start.make());
    }

    public static void main(String[] args) {
        for (Starts start : Starts.values()) {
            ArgumentBoundsTest test = new ArgumentBoundsTest(start);
            test.changes();
            test.sights();
            test.texts();
            test.spans();
            test.otherQuestions();
        }
        new ArgumentBoundsTest(Starts.NEW).tables();
        new ArgumentBoundsTest(Starts.SOME).tables();
        new ArgumentBoundsTest(Starts.SOME).tablesWithRows();
        Due.end();
    }

    private void changes() {
        changes("rows(1, %d)", 0, 1000000, NO, e -> x -> told(x.rows(1, e)));
        changes("put(1, %d)", 1, 1000000 - start.rows, NONE, e -> x -> x.put(1, e));
        changes("strike(1, %d)", 1, start.rows, NONE, e -> x -> x.strike(1, e));
        changes("room(1, %d)", 1, 40, NO, e -> x -> told(x.room(1, e)));
        changes("truth(1, %d, 5)", 0, 63, NO, e -> x -> told(x.truth(1, e, 5)));
        changes("truth(1, 5, %d)", 0, 100000, NO, e -> x -> told(x.truth(1, 5, e)));
    }

    private void sights() {
        boolean full = start.sights == 40;
        for (boolean atLeast : new boolean[] {false, true}) {
            for (int b : new int[] {0, 1, 30, 63, 64}) {
                changes("sight(1, %d, " + b + ", 0, " + atLeast + ")", 0, full ? -1 : b, NONE,
                    e -> x -> x.sight(1, e, b, 0, atLeast));
            }
            for (int a : new int[] {0, 1, 30, 63, 64}) {
                changes("sight(1, " + a + ", %d, 0, " + atLeast + ")", a, full ? a - 1 : 64, NONE,
                    e -> x -> x.sight(1, a, e, 0, atLeast));
            }
            changes("sight(1, 5, 9, %d, " + atLeast + ")", 0, full ? -1 : start.rows, NONE,
                e -> x -> x.sight(1, 5, 9, e, atLeast));
        }
        asks("sightOf(1, %d, 4)", 0, start.sights - 1, e -> x -> x.sightOf(1, e, 4));
        asks("sightOf(1, %d, 0)", 0, start.sights - 1, e -> x -> x.sightOf(1, e, 0));
        asks("sightOf(1, 0, %d)", 0, start.sights == 0 ? -1 : 4, e -> x -> x.sightOf(1, 0, e));
    }

    private void texts() {
        boolean full = start.sights == 40;
        changes("begins(1, %d, 0, 0)", 0, full ? -1 : 3, NONE, e -> x -> x.begins(1, e, 0, 0));
        int texts = 1;
        for (int n = 0; n <= 3; n++) {
            int letters = n;
            changes("begins(1, " + n + ", %d, 0)", 0, full ? -1 : texts - 1, NONE,
                e -> x -> x.begins(1, letters, e, 0));
            changes("begins(1, " + n + ", 0, %d)", 0, full ? -1 : start.rows, NONE,
                e -> x -> x.begins(1, letters, 0, e));
            texts *= 4;
        }
    }

    private void spans() {
        for (int b : new int[] {0, 1, 30, 63, 64}) {
            asks("least(1, %d, " + b + ")", 0, b, e -> x -> x.least(1, e, b));
            asks("greatest(1, %d, " + b + ")", 0, b, e -> x -> x.greatest(1, e, b));
            asks("guess(1, %d, " + b + ")", 0, b, e -> x -> x.guess(1, e, b));
            asks("join(0, 1, %d, " + b + ")", 0, b, e -> x -> x.join(0, 1, e, b));
        }
        for (int a : new int[] {0, 1, 30, 63, 64}) {
            asks("least(1, " + a + ", %d)", a, 64, e -> x -> x.least(1, a, e));
            asks("greatest(1, " + a + ", %d)", a, 64, e -> x -> x.greatest(1, a, e));
            asks("guess(1, " + a + ", %d)", a, 64, e -> x -> x.guess(1, a, e));
            asks("join(0, 1, " + a + ", %d)", a, 64, e -> x -> x.join(0, 1, a, e));
        }
    }

    private void otherQuestions() {
        asks("cost(%d, false)", 0, 5, e -> x -> x.cost(e, false));
        asks("cost(%d, true)", 0, 5, e -> x -> x.cost(e, true));
        asks("table(1, %d)", 0, 5, e -> x -> x.table(1, e));
    }

    private void tables() {
        changes("rows(%d, 5)", 0, 2, NO, e -> x -> told(x.rows(e, 5)));
        changes("put(%d, 5)", 0, 2, NONE, e -> x -> x.put(e, 5));
        changes("sight(%d, 5, 9, 0, false)", 0, 2, NONE, e -> x -> x.sight(e, 5, 9, 0, false));
        changes("begins(%d, 1, 2, 0)", 0, 2, NONE, e -> x -> x.begins(e, 1, 2, 0));
        changes("room(%d, 1)", 0, 2, NO, e -> x -> told(x.room(e, 1)));
        changes("truth(%d, 5, 5)", 0, 2, NO, e -> x -> told(x.truth(e, 5, 5)));
        asks("least(%d, 0, 64)", 0, 2, e -> x -> x.least(e, 0, 64));
        asks("greatest(%d, 0, 64)", 0, 2, e -> x -> x.greatest(e, 0, 64));
        asks("guess(%d, 0, 64)", 0, 2, e -> x -> x.guess(e, 0, 64));
        asks("join(%d, 0, 0, 64)", 0, 2, e -> x -> x.join(e, 0, 0, 64));
        asks("join(0, %d, 0, 64)", 0, 2, e -> x -> x.join(0, e, 0, 64));
        asks("join(%1$d, %1$d, 0, 64)", 0, 2, e -> x -> x.join(e, e, 0, 64));
        asks("agrees(%d)", 0, 2, e -> x -> x.agrees(e));
        for (int what = 0; what < 6; what++) {
            int which = what;
            asks("table(%d, " + what + ")", 0, 2, e -> x -> x.table(e, which));
        }
    }

    private void tablesWithRows() {
        changes("strike(%d, 5)", 0, 2, NONE, e -> x -> x.strike(e, 5));
        for (int what = 0; what < 5; what++) {
            int which = what;
            asks("sightOf(%d, 0, " + what + ")", 0, 2, e -> x -> x.sightOf(e, 0, which));
        }
    }

    private static long told(boolean answer) {
        return answer ? 1 : 0;
    }

    /** A call that is taken when its argument is from low to high and refused else. */
    private void changes(String written, int low, int high, int refusal, IntFunction<Call> call) {
        for (int e : Edges.around(low, high)) {
            boolean taken = low <= e && e <= high;
            String name = start + ": " + String.format(written, e);
            ask(name, start.make(), call.apply(e), taken, refusal, taken);
            ask(name + " after questions", asked(), call.apply(e), taken, refusal, taken);
        }
    }

    /** A question that has an answer when its argument is from low to high; it never changes anything. */
    private void asks(String written, int low, int high, IntFunction<Call> call) {
        for (int e : Edges.around(low, high)) {
            boolean taken = low <= e && e <= high;
            String name = start + ": " + String.format(written, e);
            ask(name, start.make(), call.apply(e), taken, NONE, false);
            ask(name + " after questions", asked(), call.apply(e), taken, NONE, false);
        }
    }

    /** Answers may be held from one question to the next, so each call is made before and after some. */
    private CountLearner asked() {
        CountLearner x = start.make();
        x.plan(false);
        return x;
    }

    private void ask(String name, CountLearner x, Call call, boolean taken, int refusal, boolean mayChange) {
        long answer = call.on(x);
        if (taken) {
            Due.is(name + " is taken", answer != refusal, true);
        } else {
            Due.is(name, answer, refusal);
        }
        if (!mayChange) {
            Due.is(name + " leaves all as it was", Arrays.equals(AllAnswers.of(x), before), true);
        }
    }
}
