/** Long thrown runs of all calls, right and wrong ones, each answer held against the slow model's. */
final class SlowModelTest {
    private static final int[] ODD = {-1, Integer.MIN_VALUE, Integer.MAX_VALUE, 3, 41, 64, 65, 1000000, 1000001};
    private static final int[] SIZES = {0, 1, 7, 63, 64, 1000, 999999, 1000000};

    private final Dice dice;
    private final CountLearner learner = new CountLearner();
    private final SlowModel model = new SlowModel();
    private final int[][] marks = new int[3][65];
    private String when = "";

    private SlowModelTest(long seed) {
        dice = new Dice(seed);
    }

    public static void main(String[] args) {
        for (int run = 1; run <= 60; run++) {
            new SlowModelTest(run).run(run);
        }
        Due.end();
    }

    private void run(int run) {
        int answers = dice.from(1, 20);
        for (int t = 0; t < 3; t++) {
            when = "run " + run + ", start";
            rows(t, SIZES[dice.from(0, SIZES.length - 1)]);
        }
        for (int call = 4; call <= 512; call++) {
            when = "run " + run + ", call " + call;
            if (dice.from(1, 20) <= answers) {
                ask();
            } else {
                change();
            }
        }
    }

    private int odd(int x) {
        return dice.once(40) ? ODD[dice.from(0, ODD.length - 1)] : x;
    }

    private int someTable() {
        return odd(dice.from(0, 2));
    }

    private void rows(int t, int many) {
        Due.is(when + ": rows(" + t + ", " + many + ")", learner.rows(t, many), model.rows(t, many) == 1);
        if (t >= 0 && t < 3) {
            spreadMarks(t);
        }
    }

    /** A way that sights are mostly taken from, so that many of them can be together. */
    private void spreadMarks(int t) {
        int rows = model.rowsNow(t);
        marks[t][0] = 0;
        for (int v = 0; v < 64; v++) {
            int left = rows - marks[t][v];
            int part = dice.once(3) ? 0 : dice.from(0, Math.min(left, 3 * left / (64 - v) + 1));
            marks[t][v + 1] = v == 63 ? rows : marks[t][v] + part;
        }
    }

    private void change() {
        int t = someTable();
        switch (dice.from(0, 19)) {
            case 0:
                if (dice.once(4)) {
                    rows(t, odd(SIZES[dice.from(0, SIZES.length - 1)]));
                }
                break;
            case 1:
            case 2:
                age(t);
                break;
            case 3:
                int many = odd(dice.from(dice.once(3) ? 0 : 20, 41));
                Due.is(when + ": room(" + t + ", " + many + ")", learner.room(t, many), model.room(t, many) == 1);
                break;
            case 4:
            case 5:
            case 6:
                begin(t);
                break;
            case 7:
            case 8:
                int value = odd(dice.from(0, 63));
                int truth = odd(dice.once(2) ? dice.from(0, 3) : dice.from(0, 100001));
                Due.is(when + ": truth(" + t + ", " + value + ", " + truth + ")",
                    learner.truth(t, value, truth), model.truth(t, value, truth) == 1);
                break;
            default:
                see(t);
                break;
        }
    }

    private void age(int t) {
        int many = odd(dice.once(4) ? dice.from(0, 1000000) : dice.from(0, 5));
        if (dice.once(2)) {
            Due.is(when + ": put(" + t + ", " + many + ")", learner.put(t, many), model.put(t, many));
        } else {
            Due.is(when + ": strike(" + t + ", " + many + ")", learner.strike(t, many), model.strike(t, many));
        }
    }

    private int held(int t, int a, int b) {
        if (t < 0 || t > 2 || a < 0 || b > 64 || a > b) {
            return 1;
        }
        int rows = model.rowsNow(t);
        int held = dice.once(8) ? dice.from(0, rows) : marks[t][b] - marks[t][a] + (dice.once(8) ? 1 : 0);
        return dice.once(20) ? rows + 1 : Math.min(held, rows);
    }

    private void see(int t) {
        int a = odd(dice.from(0, 64));
        int b = odd(dice.once(10) ? dice.from(0, 64) : a >= 0 && a <= 64 ? dice.from(a, 64) : a);
        int count = odd(held(t, a, b));
        boolean atLeast = dice.once(3);
        Due.is(when + ": sight(" + t + ", " + a + ", " + b + ", " + count + ", " + atLeast + ")",
            learner.sight(t, a, b, count, atLeast), model.sight(t, a, b, count, atLeast));
    }

    private void begin(int t) {
        int n = odd(dice.from(0, 3));
        int texts = n == 1 ? 4 : n == 2 ? 16 : n == 3 ? 64 : 1;
        int v = odd(dice.from(0, dice.once(10) ? texts : texts - 1));
        int width = 64 / texts;
        int count = odd(v < 0 || v >= texts ? 0 : held(t, v * width, v * width + width));
        Due.is(when + ": begins(" + t + ", " + n + ", " + v + ", " + count + ")",
            learner.begins(t, n, v, count), model.begins(t, n, v, count));
    }

    private void ask() {
        int t = someTable();
        int a = odd(dice.from(0, 64));
        int b = odd(dice.once(10) ? dice.from(0, 64) : a >= 0 && a <= 64 ? dice.from(a, 64) : a);
        String span = "(" + t + ", " + a + ", " + b + ")";
        switch (dice.from(0, 9)) {
            case 0:
            case 1:
                Due.is(when + ": least" + span, learner.least(t, a, b), model.least(t, a, b));
                break;
            case 2:
            case 3:
                Due.is(when + ": greatest" + span, learner.greatest(t, a, b), model.greatest(t, a, b));
                break;
            case 4:
            case 5:
                Due.is(when + ": guess" + span, learner.guess(t, a, b), model.guess(t, a, b));
                break;
            case 6:
                int u = someTable();
                Due.is(when + ": join(" + t + ", " + u + ", " + a + ", " + b + ")",
                    learner.join(t, u, a, b), model.join(t, u, a, b));
                break;
            case 7:
                askPlans();
                break;
            default:
                askStates(t);
                break;
        }
    }

    private void askPlans() {
        boolean truth = dice.once(2);
        int order = odd(dice.from(0, 6));
        switch (dice.from(0, 2)) {
            case 0:
                Due.is(when + ": cost(" + order + ", " + truth + ")",
                    learner.cost(order, truth), model.cost(order, truth));
                break;
            case 1:
                Due.is(when + ": plan(" + truth + ")", learner.plan(truth), model.plan(truth));
                break;
            default:
                Due.is(when + ": lost()", learner.lost(), model.lost());
                break;
        }
    }

    private void askStates(int t) {
        int s = odd(dice.from(0, 40));
        int what = odd(dice.once(2) ? 4 : dice.from(0, 5));
        switch (dice.from(0, 4)) {
            case 0:
                Due.is(when + ": agrees(" + t + ")", learner.agrees(t), model.agrees(t));
                break;
            case 1:
                int which = odd(dice.from(0, 6));
                Due.is(when + ": table(" + t + ", " + which + ")", learner.table(t, which), model.table(t, which));
                break;
            default:
                Due.is(when + ": sightOf(" + t + ", " + s + ", " + what + ")",
                    learner.sightOf(t, s, what), model.sightOf(t, s, what));
                break;
        }
    }
}
