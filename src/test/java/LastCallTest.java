/** "An object is used for at most 512 calls": the 512th is as good as the first, and those after it end. */
final class LastCallTest {
    private static final int MOST_CALLS = 512;

    private LastCallTest() {
    }

    public static void main(String[] args) {
        Due.about("at most 512 calls");
        changesLast();
        questionsLast();
        fullOfSights();
        allOfOneCall();
        moreThanPromised();
        Due.end();
    }

    /** A learner that has been called so often; put and struck rows of table 2 are the calls that leave no trace. */
    private static CountLearner afterCalls(int calls) {
        CountLearner x = new CountLearner();
        x.rows(0, 100);
        x.rows(1, 64);
        x.rows(2, 10);
        x.sight(0, 0, 16, 40, false);
        x.sight(0, 0, 16, 30, false);
        x.truth(1, 63, 64);
        x.truth(0, 63, 5);
        for (int call = 7; call < calls; call++) {
            boolean puts = call % 2 == 1;
            Due.is("call " + (call + 1), puts ? x.put(2, 1) : x.strike(2, 1), puts ? 11 : 10);
        }
        return x;
    }

    private static void last(String name, long want, Call call) {
        for (int before : new int[] {MOST_CALLS - 3, MOST_CALLS - 2, MOST_CALLS - 1}) {
            Due.is(name + " as call " + (before + 1), call.on(afterCalls(before)), want);
        }
    }

    private static void changesLast() {
        last("rows(0, 1000000)", 1, x -> x.rows(0, 1000000) ? 1 : 0);
        last("rows(0, 1000001)", 0, x -> x.rows(0, 1000001) ? 1 : 0);
        last("put(0, 999900)", 1000000, x -> x.put(0, 999900));
        last("put(0, 999901)", -1, x -> x.put(0, 999901));
        last("strike(0, 100)", 0, x -> x.strike(0, 100));
        last("strike(0, 101)", -1, x -> x.strike(0, 101));
        last("sight(0, 0, 64, 100, true)", 2, x -> x.sight(0, 0, 64, 100, true));
        last("sight(0, 0, 64, 101, true)", -1, x -> x.sight(0, 0, 64, 101, true));
        last("begins(0, 3, 63, 0)", 2, x -> x.begins(0, 3, 63, 0));
        last("begins(0, 3, 64, 0)", -1, x -> x.begins(0, 3, 64, 0));
        last("room(0, 40)", 1, x -> x.room(0, 40) ? 1 : 0);
        last("room(0, 41)", 0, x -> x.room(0, 41) ? 1 : 0);
        last("truth(0, 63, 100000)", 1, x -> x.truth(0, 63, 100000) ? 1 : 0);
        last("truth(0, 64, 100000)", 0, x -> x.truth(0, 64, 100000) ? 1 : 0);
    }

    private static void questionsLast() {
        last("sightOf(0, 0, 4)", 1, x -> x.sightOf(0, 0, 4));
        last("sightOf(0, 2, 4)", -1, x -> x.sightOf(0, 2, 4));
        last("least(0, 0, 20)", 30, x -> x.least(0, 0, 20));
        last("greatest(0, 16, 17)", 70, x -> x.greatest(0, 16, 17));
        last("guess(0, 0, 16)", 30, x -> x.guess(0, 0, 16));
        last("join(1, 1, 0, 64)", 64, x -> x.join(1, 1, 0, 64));
        last("agrees(1)", 1, x -> x.agrees(1));
        last("agrees(0)", 0, x -> x.agrees(0));
        last("cost(0, true)", 320, x -> x.cost(0, true));
        last("cost(6, true)", -1, x -> x.cost(6, true));
        last("plan(true)", 1, x -> x.plan(true));
        last("table(0, 3)", 1, x -> x.table(0, 3));
    }

    /** Every call changes something or asks anew what changed: the dearest run that can be. */
    private static void fullOfSights() {
        CountLearner x = new CountLearner();
        x.rows(0, 1000000);
        for (int s = 0; s < 40; s++) {
            x.sight(0, s, 64 - s % 20, 1000000 - 20000 * s, s % 3 == 0);
        }
        for (int call = 42; call <= MOST_CALLS; call++) {
            if (call % 2 == 0) {
                Due.is("room, call " + call, x.room(0, 1 + call % 40), true);
            } else {
                int guess = x.guess(0, 0, 64);
                Due.is("guess, call " + call, guess, 1000000);
            }
        }
    }

    private static void allOfOneCall() {
        CountLearner put = new CountLearner();
        CountLearner refused = new CountLearner();
        CountLearner rows = new CountLearner();
        CountLearner plan = new CountLearner();
        for (int call = 1; call <= MOST_CALLS; call++) {
            Due.is("put, call " + call, put.put(0, 1), call);
            Due.is("a refused put, call " + call, refused.put(0, Integer.MAX_VALUE), -1);
            Due.is("rows, call " + call, rows.rows(2, 1000000), true);
            Due.is("plan, call " + call, plan.plan(call % 2 == 0), 0);
        }
        CountLearner sights = new CountLearner();
        for (int call = 1; call <= MOST_CALLS; call++) {
            Due.is("sight, call " + call, sights.sight(1, 0, 64, 0, false), call <= 40 ? call - 1 : -1);
        }
    }

    /** What these answer is free, but a call never throws and always ends. */
    private static void moreThanPromised() {
        CountLearner x = afterCalls(MOST_CALLS);
        for (int call = 0; call < 2000; call++) {
            x.put(call % 3, 1000);
            x.sight(call % 3, call % 64, 64, call, call % 2 == 0);
            x.guess(call % 3, 0, 64);
            x.room(call % 3, 1 + call % 40);
            x.lost();
            x.sightOf(call % 3, call % 41, 4);
        }
    }
}
