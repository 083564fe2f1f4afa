import java.util.Arrays;
import java.util.function.IntFunction;

/** The sentences of the promises that name a boundary case or a refusal: one test for each. */
final class PromiseBoundsTest {
    private static final int MILLION = 1000000;
    private static final int[] NO_TABLE = {-1, 3, 4, 256, -3, Edges.MIN, Edges.MIN + 1, Edges.MAX, 1 << 30};
    private static final int[][] NO_SPAN = {
        {-1, 0}, {-1, 64}, {0, 65}, {64, 65}, {65, 65}, {1, 0}, {64, 63}, {64, 0}, {-1, -1}, {Edges.MIN, 0},
        {Edges.MIN, Edges.MIN}, {Edges.MAX, Edges.MAX}, {0, Edges.MAX}, {Edges.MIN, Edges.MAX},
        {Edges.MAX, Edges.MIN}, {64, Edges.MAX}, {0, Edges.MIN}};

    private PromiseBoundsTest() {
    }

    public static void main(String[] args) {
        newObject();
        rowsTakeSightsAway();
        rowsRefused();
        putFromOne();
        putAboveAMillion();
        strikeFromOne();
        strikeMoreThanThere();
        sightCounts();
        sightRefusedAtForty();
        sightRefused();
        beginsRefused();
        roomRefused();
        sightOfEach();
        sightOfNoneSuch();
        leastRefused();
        greatestRefused();
        guessRefused();
        joinTakenTwice();
        joinRefused();
        truthRefused();
        agreesWithRows();
        agreesWithSights();
        agreesNoTable();
        costNoOrder();
        planWithoutRows();
        lostIsNeverBelowZero();
        tableOfEach();
        tableNoneSuch();
        Due.end();
    }

    private static CountLearner with(int rows) {
        CountLearner x = new CountLearner();
        x.rows(0, rows);
        return x;
    }

    private static long told(boolean answer) {
        return answer ? 1 : 0;
    }

    /** From every start the call gives that answer, and then everything answers as if it had not been made. */
    private static void doesNothing(String name, long answer, Call call) {
        for (Starts start : Starts.values()) {
            CountLearner x = start.make();
            Due.is(start + ": " + name, call.on(x), answer);
            boolean same = Arrays.equals(AllAnswers.of(x), AllAnswers.of(start.make()));
            Due.is(start + ": " + name + " does nothing", same, true);
        }
    }

    /** The same for a call on a table that is none. */
    private static void noTable(String name, long answer, IntFunction<Call> call) {
        for (int t : NO_TABLE) {
            doesNothing(name + " of table " + t, answer, call.apply(t));
        }
    }

    private static void newObject() {
        Due.about("1: TABLES without rows and SIGHTS");
        int[] due = {0, 0, 0, 0, 0, 40};
        for (int t = 0; t < 3; t++) {
            CountLearner x = new CountLearner();
            for (int what = 0; what < 6; what++) {
                Due.is("table(" + t + ", " + what + ")", x.table(t, what), due[what]);
            }
            for (int s : Edges.around(0, 39)) {
                Due.is("sight " + s, x.sightOf(t, s, 0), -1);
            }
            for (int b = 0; b <= 64; b++) {
                Due.is("least", x.least(t, 0, b), 0);
                Due.is("greatest", x.greatest(t, 0, b), 0);
                Due.is("guess", x.guess(t, 0, b), 0);
            }
            Due.is("agrees", x.agrees(t), 1);
            Due.is("join", x.join(t, t, 0, 64), 0);
        }
    }

    private static void rowsTakeSightsAway() {
        Due.about("2: its SIGHTS are gone: true");
        for (int many : new int[] {0, 1, 99, 100, 101, MILLION - 1, MILLION}) {
            CountLearner x = with(100);
            x.rows(1, 100);
            x.sight(1, 0, 9, 4, false);
            for (int s = 0; s < 40; s++) {
                x.sight(0, 0, 9, s, false);
            }
            x.room(0, 7);
            x.truth(0, 3, 1);
            x.guess(0, 0, 9);
            Due.is("rows(0, " + many + ")", x.rows(0, many), true);
            int[] due = {many, 0, 0, 0, 0, 7};
            for (int what = 0; what < 6; what++) {
                Due.is("table(0, " + what + ")", x.table(0, what), due[what]);
            }
            for (int s = 0; s < 40; s++) {
                Due.is("sight " + s, x.sightOf(0, s, 0) + x.sightOf(0, s, 4), -2);
            }
            Due.is("greatest", x.greatest(0, 0, 9), many);
            Due.is("least", x.least(0, 0, 9), 0);
            Due.is("the truth stays", x.agrees(0), many == 1 ? 1 : 0);
            Due.is("another table's stay", x.table(1, 1), 1);
            Due.is("the next one is the first", x.sight(0, 0, 9, 0, false), 0);
        }
    }

    private static void rowsRefused() {
        Due.about("2: false, doing nothing: not as told");
        for (int many : new int[] {-1, -2, MILLION + 1, MILLION + 2, Edges.MIN, Edges.MIN + 1, Edges.MAX}) {
            doesNothing("rows(1, " + many + ")", 0, x -> told(x.rows(1, many)));
        }
        noTable("rows", 0, t -> x -> told(x.rows(t, 5)));
        noTable("no rows", 0, t -> x -> told(x.rows(t, 0)));
    }

    private static void putFromOne() {
        Due.about("3: So many rows (1 on) are PUT: its ROWS");
        for (int many : Edges.around(1)) {
            CountLearner x = with(10);
            boolean right = many >= 1 && many <= MILLION - 10;
            Due.is("put(0, " + many + ")", x.put(0, many), right ? 10 + many : -1);
            Due.is("its rows", x.table(0, 0), right ? 10 + many : 10);
        }
        for (int many : new int[] {0, -1, -2, -MILLION, Edges.MIN, Edges.MIN + 1}) {
            doesNothing("put(1, " + many + ")", -1, x -> x.put(1, many));
        }
        noTable("put", -1, t -> x -> x.put(t, 1));
    }

    private static void putAboveAMillion() {
        Due.about("3: NONE, doing nothing: above 1,000,000");
        for (int rows : new int[] {0, 1, 500000, MILLION - 1, MILLION}) {
            int left = MILLION - rows;
            for (int many : Edges.around(left)) {
                CountLearner x = with(rows);
                x.sight(0, 0, 9, rows, false);
                boolean right = many >= 1 && many <= left;
                int then = right ? rows + many : rows;
                Due.is("put(0, " + many + ") to " + rows, x.put(0, many), right ? then : -1);
                Due.is("its rows", x.table(0, 0), then);
                Due.is("its sight", x.sightOf(0, 0, 3), then);
            }
        }
        for (int many : new int[] {MILLION + 1, Edges.MAX - MILLION, Edges.MAX - 1, Edges.MAX}) {
            doesNothing("put(1, " + many + ")", -1, x -> x.put(1, many));
        }
    }

    private static void strikeFromOne() {
        Due.about("4: So many (1 on) are STRUCK: its ROWS");
        for (int many : Edges.around(1)) {
            CountLearner x = with(10);
            boolean right = many >= 1 && many <= 10;
            Due.is("strike(0, " + many + ")", x.strike(0, many), right ? 10 - many : -1);
            Due.is("its rows", x.table(0, 0), right ? 10 - many : 10);
        }
        for (int many : new int[] {0, -1, -2, -MILLION, Edges.MIN, Edges.MIN + 1}) {
            doesNothing("strike(1, " + many + ")", -1, x -> x.strike(1, many));
        }
        noTable("strike", -1, t -> x -> x.strike(t, 1));
    }

    private static void strikeMoreThanThere() {
        Due.about("4: NONE, doing nothing: it hasn't as many");
        for (int rows : new int[] {0, 1, 2, 500, MILLION}) {
            for (int many : Edges.around(rows)) {
                CountLearner x = with(rows);
                x.sight(0, 0, 9, rows, false);
                boolean right = many >= 1 && many <= rows;
                int then = right ? rows - many : rows;
                Due.is("strike(0, " + many + ") of " + rows, x.strike(0, many), right ? then : -1);
                Due.is("its rows", x.table(0, 0), then);
                Due.is("its sight", x.sightOf(0, 0, 2), then);
            }
        }
        for (int many : new int[] {MILLION + 1, Edges.MAX - 1, Edges.MAX}) {
            doesNothing("strike(1, " + many + ")", -1, x -> x.strike(1, many));
        }
    }

    private static void sightCounts() {
        Due.about("5: count 0 to ROWS");
        for (int rows : new int[] {0, 1, 10, MILLION}) {
            for (int count : Edges.around(0, rows)) {
                for (boolean atLeast : new boolean[] {false, true}) {
                    CountLearner x = with(rows);
                    boolean right = count >= 0 && count <= rows;
                    Due.is("count " + count + " of " + rows, x.sight(0, 0, 9, count, atLeast), right ? 0 : -1);
                    Due.is("sights", x.table(0, 1), right ? 1 : 0);
                }
            }
        }
        CountLearner x = with(10);
        x.put(0, 1);
        Due.is("of the rows as they are: put", x.sight(0, 0, 9, 11, false), 0);
        x.strike(0, 2);
        Due.is("of the rows as they are: struck", x.sight(0, 0, 9, 10, false), -1);
        Due.is("the last that can be", x.sight(0, 0, 9, 9, false), 1);
    }

    private static void sightRefusedAtForty() {
        Due.about("5: NONE, doing nothing: 40 are there");
        for (int many : new int[] {38, 39, 40}) {
            CountLearner x = with(100);
            for (int s = 0; s < many; s++) {
                Due.is("number " + s, x.sight(0, s, s + 1, 1, s % 3 == 0), s);
            }
            Due.is("after " + many, x.sight(0, 60, 61, 1, false), many < 40 ? many : -1);
            Due.is("sights", x.table(0, 1), Math.min(many + 1, 40));
            Due.is("greatest", x.greatest(0, 60, 61), many < 40 ? 1 : 60);
        }
        CountLearner full = Starts.FULL.make();
        long[] before = AllAnswers.of(Starts.FULL.make());
        for (int a = 0; a <= 64; a++) {
            Due.is("sight(1, " + a + ", 64)", full.sight(1, a, 64, 0, a % 2 == 0), -1);
        }
        Due.is("nothing done", Arrays.equals(AllAnswers.of(full), before), true);
    }

    private static void sightRefused() {
        Due.about("5: NONE, doing nothing: not as told");
        for (int[] span : NO_SPAN) {
            String name = "sight(1, " + span[0] + ", " + span[1] + ", 0)";
            doesNothing(name, -1, x -> x.sight(1, span[0], span[1], 0, false));
            doesNothing(name + " at least", -1, x -> x.sight(1, span[0], span[1], 0, true));
        }
        for (int count : new int[] {-1, MILLION + 1, Edges.MIN, Edges.MAX}) {
            doesNothing("count " + count, -1, x -> x.sight(1, 0, 9, count, false));
            doesNothing("count at least " + count, -1, x -> x.sight(1, 0, 9, count, true));
        }
        noTable("sight", -1, t -> x -> x.sight(t, 0, 9, 0, false));
    }

    private static void beginsRefused() {
        Due.about("6: n (0 to 3) letters v. NONE likewise");
        int[][] texts = {
            {-1, 0}, {4, 0}, {5, 0}, {-2, 0}, {Edges.MIN, 0}, {Edges.MAX, 0}, {16, 0}, {19, 0}, {-13, 0}, {-16, 0},
            {0, 1}, {0, -1}, {0, 4}, {0, 1 << 26}, {0, Edges.MIN}, {0, Edges.MAX}, {1, 4}, {1, -1}, {1, 1 << 28},
            {1, Edges.MIN}, {1, Edges.MAX}, {2, 16}, {2, -1}, {2, 1 << 30}, {2, Edges.MIN}, {2, Edges.MAX},
            {3, 64}, {3, -1}, {3, Edges.MIN}, {3, Edges.MAX}};
        for (int[] text : texts) {
            String name = "begins(1, " + text[0] + ", " + text[1] + ", 0)";
            doesNothing(name, -1, x -> x.begins(1, text[0], text[1], 0));
        }
        for (int count : new int[] {-1, MILLION + 1, Edges.MIN, Edges.MAX}) {
            doesNothing("count " + count, -1, x -> x.begins(1, 1, 1, count));
        }
        noTable("begins", -1, t -> x -> x.begins(t, 0, 0, 0));
        for (int count : Edges.around(0, 10)) {
            CountLearner x = with(10);
            boolean right = count >= 0 && count <= 10;
            Due.is("begins(0, 1, 3, " + count + ") of 10", x.begins(0, 1, 3, count), right ? 0 : -1);
            Due.is("just so many", x.sightOf(0, 0, 3), right ? count : -1);
        }
        CountLearner x = with(10);
        for (int s = 0; s < 41; s++) {
            Due.is("begins after " + s, x.begins(0, 3, s, 0), s < 40 ? s : -1);
        }
    }

    private static void roomRefused() {
        Due.about("7: false: not as told");
        for (int many : new int[] {0, -1, 41, 42, 296, Edges.MIN, Edges.MIN + 1, Edges.MAX}) {
            doesNothing("room(1, " + many + ")", 0, x -> told(x.room(1, many)));
        }
        noTable("room", 0, t -> x -> told(x.room(t, 1)));
        CountLearner x = with(10);
        Due.is("1", x.room(0, 1), true);
        Due.is("0", x.room(0, 0), false);
        Due.is("stays 1", x.table(0, 5), 1);
        Due.is("40", x.room(0, 40), true);
        Due.is("41", x.room(0, 41), false);
        Due.is("stays 40", x.table(0, 5), 40);
    }

    private static void sightOfEach() {
        Due.about("8: 0 a, 1 b, 2 LEAST, 3 GREATEST (1,000,001: no bound), 4 how it is");
        CountLearner x = with(MILLION);
        x.sight(0, 0, 64, MILLION, false);
        x.sight(0, 0, 0, 0, false);
        x.sight(0, 64, 64, 0, true);
        x.sight(0, 63, 64, MILLION, true);
        x.sight(0, 3, 3, 1, false);
        int[][] due = {
            {0, 64, MILLION, MILLION, 0}, {0, 0, 0, 0, 0}, {64, 64, 0, 1000001, 0}, {63, 64, MILLION, 1000001, 0},
            {3, 3, 1, 1, 1}};
        for (int s = 0; s < due.length; s++) {
            for (int what : Edges.around(0, 4)) {
                long want = what >= 0 && what <= 4 ? due[s][what] : -1;
                Due.is("sightOf(0, " + s + ", " + what + ")", x.sightOf(0, s, what), want);
            }
        }
        x.room(0, 4);
        for (int what = 0; what < 4; what++) {
            Due.is("of a melted one, " + what, x.sightOf(0, 0, what), due[0][what]);
        }
        Due.is("it is melted", x.sightOf(0, 0, 4), 2);
        Due.is("the next is kept", x.sightOf(0, 1, 4), 0);
    }

    private static void sightOfNoneSuch() {
        Due.about("8: NONE: none such");
        for (int sights : new int[] {0, 1, 39, 40}) {
            CountLearner x = with(10);
            for (int s = 0; s < sights; s++) {
                x.sight(0, 0, 64, 10, false);
            }
            for (int s : Edges.around(0, sights - 1, sights, 39)) {
                for (int what = 0; what < 5; what++) {
                    boolean there = s >= 0 && s < sights;
                    String name = "sightOf(0, " + s + ", " + what + ") of " + sights;
                    Due.is(name, x.sightOf(0, s, what) >= 0, there);
                    Due.is(name + " is none", x.sightOf(0, s, what) == -1, !there);
                }
            }
        }
        for (int what : new int[] {-1, 5, 6, Edges.MIN, Edges.MAX}) {
            doesNothing("sightOf(1, 0, " + what + ")", -1, x -> x.sightOf(1, 0, what));
        }
        noTable("sightOf", -1, t -> x -> x.sightOf(t, 0, 0));
        noTable("how it is", -1, t -> x -> x.sightOf(t, 0, 4));
    }

    private static void leastRefused() {
        Due.about("9: NONE: not as told");
        for (int[] span : NO_SPAN) {
            doesNothing("least(1, " + span[0] + ", " + span[1] + ")", -1, x -> x.least(1, span[0], span[1]));
        }
        noTable("least", -1, t -> x -> x.least(t, 0, 64));
        Due.is("0 is not NONE", new CountLearner().least(0, 0, 64), 0);
    }

    private static void greatestRefused() {
        Due.about("10: likewise");
        for (int[] span : NO_SPAN) {
            doesNothing("greatest(1, " + span[0] + ", " + span[1] + ")", -1, x -> x.greatest(1, span[0], span[1]));
        }
        noTable("greatest", -1, t -> x -> x.greatest(t, 0, 64));
        Due.is("0 is not NONE", new CountLearner().greatest(0, 0, 64), 0);
    }

    private static void guessRefused() {
        Due.about("11: likewise");
        for (int[] span : NO_SPAN) {
            doesNothing("guess(1, " + span[0] + ", " + span[1] + ")", -1, x -> x.guess(1, span[0], span[1]));
        }
        noTable("guess", -1, t -> x -> x.guess(t, 0, 64));
        Due.is("0 is not NONE", new CountLearner().guess(0, 0, 64), 0);
    }

    private static void joinTakenTwice() {
        Due.about("12: one may be taken twice");
        for (int t = 0; t < 3; t++) {
            CountLearner x = new CountLearner();
            x.rows(t, 66);
            Due.is("62 of one and twice two", x.join(t, t, 0, 64), 62 + 4 + 4);
            Due.is("the last", x.join(t, t, 63, 64), 4);
            Due.is("the last but two", x.join(t, t, 61, 62), 1);
            Due.is("none", x.join(t, t, 64, 64), 0);
            Due.is("with another", x.join(t, (t + 1) % 3, 0, 64), 0);
        }
    }

    private static void joinRefused() {
        Due.about("12: NONE: not as told");
        for (int[] span : NO_SPAN) {
            String name = "(.., " + span[0] + ", " + span[1] + ")";
            doesNothing("join" + name, -1, x -> x.join(0, 1, span[0], span[1]));
            doesNothing("join of one" + name, -1, x -> x.join(1, 1, span[0], span[1]));
        }
        noTable("join, the first", -1, t -> x -> x.join(t, 1, 0, 64));
        noTable("join, the second", -1, t -> x -> x.join(1, t, 0, 64));
        noTable("join, both", -1, t -> x -> x.join(t, t, 0, 64));
    }

    private static void truthRefused() {
        Due.about("13: false: not as told");
        for (int value : new int[] {-1, 64, 65, Edges.MIN, Edges.MAX}) {
            doesNothing("truth(1, " + value + ", 5)", 0, x -> told(x.truth(1, value, 5)));
        }
        for (int many : new int[] {-1, 100001, 100002, MILLION, Edges.MIN, Edges.MAX}) {
            doesNothing("truth(1, 0, " + many + ")", 0, x -> told(x.truth(1, 0, many)));
            doesNothing("truth(1, 63, " + many + ")", 0, x -> told(x.truth(1, 63, many)));
        }
        noTable("truth", 0, t -> x -> told(x.truth(t, 0, 1)));
        CountLearner x = new CountLearner();
        Due.is("more than the rows", x.truth(0, 0, 100000), true);
        Due.is("and none again", x.truth(0, 0, 0), true);
        Due.is("as at first", x.agrees(0), 1);
    }

    private static void agreesWithRows() {
        Due.about("14: Whether THE TRUTH agrees with its ROWS");
        for (int rows : new int[] {0, 1, 2, 3, 4}) {
            CountLearner x = with(rows);
            x.truth(0, 0, 1);
            x.truth(0, 63, 1);
            Due.is("2 of " + rows, x.agrees(0), rows == 2 ? 1 : 0);
        }
        CountLearner x = with(MILLION);
        for (int value = 0; value < 10; value++) {
            Due.is("not yet", x.agrees(0), 0);
            x.truth(0, value, 100000);
        }
        Due.is("a million", x.agrees(0), 1);
        x.truth(0, 63, 1);
        Due.is("one more", x.agrees(0), 0);
        x.truth(0, 0, 99999);
        Due.is("a million again", x.agrees(0), 1);
        x.truth(0, 63, 0);
        Due.is("one less", x.agrees(0), 0);
        for (int value = 0; value < 64; value++) {
            x.truth(0, value, 100000);
        }
        Due.is("the most that can be told", x.agrees(0), 0);
    }

    private static void agreesWithSights() {
        Due.about("14: and all SIGHTS KEPT");
        CountLearner around = with(30);
        around.sight(0, 5, 9, 8, false);
        around.truth(0, 4, 11);
        around.truth(0, 5, 3);
        around.truth(0, 8, 5);
        around.truth(0, 9, 11);
        Due.is("8 with others below and above", around.agrees(0), 1);
        around.truth(0, 5, 2);
        around.truth(0, 4, 12);
        Due.is("one of them just below", around.agrees(0), 0);
        around.truth(0, 5, 4);
        around.truth(0, 4, 11);
        around.truth(0, 9, 10);
        Due.is("one from just above", around.agrees(0), 0);
        for (int inside = 0; inside <= 20; inside++) {
            CountLearner x = with(20);
            x.sight(0, 5, 9, 8, false);
            x.put(0, 2);
            x.strike(0, 2);
            x.truth(0, 8, inside);
            x.truth(0, 9, 20 - inside);
            Due.is("from 6 to 10: " + inside, x.agrees(0), inside >= 6 && inside <= 10 ? 1 : 0);
            x.sight(0, 5, 9, 9, true);
            Due.is("from 9 to 10: " + inside, x.agrees(0), inside >= 9 && inside <= 10 ? 1 : 0);
            x.sight(0, 5, 9, 12, false);
            Due.is("12, the others in part in quarrel: " + inside, x.agrees(0), inside == 12 ? 1 : 0);
            x.sight(0, 5, 5, 1, false);
            x.room(0, 1);
            Due.is("one in quarrel, the others melted: " + inside, x.agrees(0), 1);
        }
    }

    private static void agreesNoTable() {
        Due.about("14: NONE: no such TABLE");
        noTable("agrees", -1, t -> x -> x.agrees(t));
        Due.is("1", with(0).agrees(2), 1);
        Due.is("0 is not NONE", with(1).agrees(0), 0);
    }

    private static void costNoOrder() {
        Due.about("15: NONE: no such ORDER");
        for (int order : new int[] {-1, -2, 6, 7, 256, Edges.MIN, Edges.MIN + 1, Edges.MAX, 1 << 30}) {
            doesNothing("cost(" + order + ", false)", -1, x -> x.cost(order, false));
            doesNothing("cost(" + order + ", true)", -1, x -> x.cost(order, true));
        }
        for (int order = 0; order < 6; order++) {
            Due.is("0 is not NONE", new CountLearner().cost(order, false), 0);
            Due.is("0 is not NONE", new CountLearner().cost(order, true), 0);
        }
    }

    private static void planWithoutRows() {
        Due.about("16: PLAN by GUESSES, or by THE TRUTH");
        CountLearner x = new CountLearner();
        Due.is("without rows", x.plan(false), 0);
        Due.is("without truth", x.plan(true), 0);
        x.rows(0, MILLION);
        x.rows(1, MILLION);
        Due.is("a join of none by guesses", x.plan(false), 1);
        Due.is("the truth is another thing", x.plan(true), 0);
        x.truth(1, 63, 100000);
        x.truth(2, 63, 100000);
        x.truth(0, 63, 100000);
        Due.is("all alike by the truth", x.plan(true), 0);
        x.truth(0, 63, 99999);
        Due.is("one row less in the first", x.plan(true), 0);
        x.truth(1, 63, 99999);
        x.truth(0, 63, 100000);
        Due.is("one row less in the second", x.plan(true), 0);
        x.truth(1, 63, 100000);
        x.truth(2, 63, 99999);
        Due.is("one row less in the third", x.plan(true), 1);
        x.truth(1, 63, 99999);
        Due.is("one less in the second and the third", x.plan(true), 3);
        Due.is("guesses stay", x.plan(false), 1);
    }

    private static void lostIsNeverBelowZero() {
        Due.about("17: LOST");
        Dice dice = new Dice(17);
        for (int run = 0; run < 200; run++) {
            CountLearner x = new CountLearner();
            for (int t = 0; t < 3; t++) {
                x.rows(t, dice.from(0, 1) * dice.from(0, MILLION));
                x.sight(t, dice.from(0, 32), dice.from(33, 64), dice.from(0, x.table(t, 0)), false);
                x.truth(t, dice.from(0, 3), dice.from(0, 100000));
                x.truth(t, dice.from(0, 3), dice.from(0, 100000));
            }
            long best = x.cost(x.plan(true), true);
            Due.is("run " + run, x.lost(), x.cost(x.plan(false), true) - best);
            for (int order = 0; order < 6; order++) {
                Due.is("none is better, run " + run, x.cost(order, true) >= best, true);
            }
            Due.is("not below 0, run " + run, x.lost() >= 0, true);
        }
    }

    private static void tableOfEach() {
        Due.about("18: ROWS (0), SIGHTS (1), KEPT (2), in QUARREL (3), MELTED (4), ROOM (5)");
        CountLearner x = with(MILLION);
        for (int s = 0; s < 40; s++) {
            x.sight(0, 7, s % 2 == 0 ? 8 : 7, 1, false);
        }
        int[][] due = {{40, 20, 20, 0}, {39, 19, 20, 1}, {38, 19, 19, 2}, {2, 1, 1, 38}, {1, 0, 1, 39}};
        for (int[] d : due) {
            Due.is("room " + d[0], x.room(0, d[0]), true);
            Due.is("rows", x.table(0, 0), MILLION);
            Due.is("sights", x.table(0, 1), 40);
            Due.is("kept, room " + d[0], x.table(0, 2), d[1]);
            Due.is("in quarrel, room " + d[0], x.table(0, 3), d[2]);
            Due.is("melted, room " + d[0], x.table(0, 4), d[3]);
            Due.is("its room", x.table(0, 5), d[0]);
        }
        CountLearner all = with(1);
        for (int s = 0; s < 40; s++) {
            all.sight(0, 0, 64, 1, false);
        }
        Due.is("40 kept", all.table(0, 2), 40);
        Due.is("0 in quarrel", all.table(0, 3), 0);
        Due.is("0 melted", all.table(0, 4), 0);
    }

    private static void tableNoneSuch() {
        Due.about("18: NONE: none such");
        for (int what : new int[] {-1, -2, 6, 7, 256, Edges.MIN, Edges.MAX}) {
            doesNothing("table(1, " + what + ")", -1, x -> x.table(1, what));
        }
        for (int what = 0; what < 6; what++) {
            int which = what;
            noTable("table, " + what, -1, t -> x -> x.table(t, which));
        }
    }
}
