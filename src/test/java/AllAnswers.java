import java.util.Arrays;

/** What a learner answers to questions of every kind: two learners that answer alike are taken to hold the same. */
final class AllAnswers {
    private static final int[][] SPANS = {{0, 64}, {0, 8}, {8, 16}, {10, 30}, {63, 64}, {5, 5}};

    private final CountLearner learner;
    private final long[] answers = new long[512];
    private int asked = 0;

    private AllAnswers(CountLearner learner) {
        this.learner = learner;
    }

    static long[] of(CountLearner learner) {
        return new AllAnswers(learner).all();
    }

    private long[] all() {
        for (int t = 0; t < 3; t++) {
            askTable(t);
            askJoins(t);
        }
        askPlans();
        return Arrays.copyOf(answers, asked);
    }

    private void note(long answer) {
        answers[asked++] = answer;
    }

    private void askTable(int t) {
        for (int what = 0; what < 6; what++) {
            note(learner.table(t, what));
        }
        int sights = (int) answers[asked - 5];
        for (int s = 0; s < sights; s++) {
            for (int what = 0; what < 5; what++) {
                note(learner.sightOf(t, s, what));
            }
        }
        for (int[] span : SPANS) {
            note(learner.least(t, span[0], span[1]));
            note(learner.greatest(t, span[0], span[1]));
            note(learner.guess(t, span[0], span[1]));
        }
        note(learner.agrees(t));
    }

    private void askJoins(int t) {
        for (int u = t; u < 3; u++) {
            note(learner.join(t, u, 0, 64));
        }
    }

    private void askPlans() {
        for (int order = 0; order < 6; order++) {
            note(learner.cost(order, false));
            note(learner.cost(order, true));
        }
        note(learner.plan(false));
        note(learner.plan(true));
        note(learner.lost());
    }
}
