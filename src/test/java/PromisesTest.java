/** Each promise of the document by itself: ordinary calls, the edges that it names, and wrong calls. */
final class PromisesTest {
    private static final int MIN = Integer.MIN_VALUE;
    private static final int MAX = Integer.MAX_VALUE;
    private static final int[] NO_TABLE = {-1, 3, MIN, MAX};
    private static final int[][] NO_SPAN = {
        {-1, 5}, {6, 5}, {0, 65}, {65, 65}, {-1, -1}, {MIN, MAX}, {MAX, MIN}, {0, MAX}, {MIN, 0}, {0, -1}};

    private PromisesTest() {
    }

    public static void main(String[] args) {
        aNewObject();
        rows();
        put();
        strike();
        sight();
        begins();
        room();
        sightOf();
        quarrels();
        aging();
        least();
        greatest();
        guess();
        guessWithinBounds();
        join();
        truth();
        agrees();
        cost();
        plan();
        lost();
        table();
        Due.end();
    }

    /** A learner whose tables have so many rows. */
    private static CountLearner with(int zero, int one, int two) {
        CountLearner x = new CountLearner();
        x.rows(0, zero);
        x.rows(1, one);
        x.rows(2, two);
        return x;
    }

    /** A learner whose tables have all their rows, so many, at one value. */
    private static CountLearner allAt(int value, int zero, int one, int two) {
        CountLearner x = with(zero, one, two);
        x.sight(0, value, value + 1, zero, false);
        x.sight(1, value, value + 1, one, false);
        x.sight(2, value, value + 1, two, false);
        return x;
    }

    private static void aNewObject() {
        CountLearner x = new CountLearner();
        int[] first = {0, 0, 0, 0, 0, 40};
        for (int t = 0; t < 3; t++) {
            for (int what = 0; what < 6; what++) {
                Due.is("1: table(" + t + ", " + what + ")", x.table(t, what), first[what]);
            }
            Due.is("1: sightOf", x.sightOf(t, 0, 0), -1);
            Due.is("1: least", x.least(t, 0, 64), 0);
            Due.is("1: greatest", x.greatest(t, 0, 64), 0);
            Due.is("1: guess", x.guess(t, 0, 64), 0);
            Due.is("1: agrees", x.agrees(t), 1);
        }
        Due.is("1: join", x.join(0, 1, 0, 64), 0);
        Due.is("1: cost", x.cost(5, false), 0);
        Due.is("1: plan", x.plan(false), 0);
        Due.is("1: lost", x.lost(), 0);
        CountLearner other = new CountLearner();
        x.rows(0, 9);
        Due.is("1: objects are apart", other.table(0, 0), 0);
    }

    private static void rows() {
        CountLearner x = new CountLearner();
        Due.is("2: rows(0, 0)", x.rows(0, 0), true);
        Due.is("2: rows(2, 1000000)", x.rows(2, 1000000), true);
        Due.is("2: its rows", x.table(2, 0), 1000000);
        Due.is("2: other rows", x.table(1, 0), 0);
        x.rows(0, 10);
        x.sight(0, 0, 5, 7, false);
        for (int t : NO_TABLE) {
            Due.is("2: rows(" + t + ", 1)", x.rows(t, 1), false);
        }
        for (int many : new int[] {-1, 1000001, MIN, MAX}) {
            Due.is("2: rows(0, " + many + ")", x.rows(0, many), false);
        }
        Due.is("2: rows stay", x.table(0, 0), 10);
        Due.is("2: sights stay", x.table(0, 1), 1);
        x.room(0, 3);
        x.truth(0, 4, 12);
        Due.is("2: rows anew", x.rows(0, 12), true);
        Due.is("2: sights are gone", x.table(0, 1), 0);
        Due.is("2: none is kept", x.table(0, 2), 0);
        Due.is("2: the first is gone", x.sightOf(0, 0, 0), -1);
        Due.is("2: nothing is known", x.least(0, 0, 5), 0);
        Due.is("2: the room stays", x.table(0, 5), 3);
        Due.is("2: the truth stays", x.agrees(0), 1);
        Due.is("2: numbers begin again", x.sight(0, 0, 5, 7, false), 0);
    }

    private static void put() {
        CountLearner x = with(10, 0, 999999);
        Due.is("3: put(0, 1)", x.put(0, 1), 11);
        Due.is("3: put(0, 5)", x.put(0, 5), 16);
        Due.is("3: put(2, 2)", x.put(2, 2), -1);
        Due.is("3: rows stay", x.table(2, 0), 999999);
        Due.is("3: put(2, 1)", x.put(2, 1), 1000000);
        Due.is("3: put at the top", x.put(2, 1), -1);
        Due.is("3: put(1, 1000000)", x.put(1, 1000000), 1000000);
        x.sight(0, 0, 5, 4, false);
        for (int many : new int[] {0, -1, MIN, MAX, 999985, 1000000}) {
            Due.is("3: put(0, " + many + ")", x.put(0, many), -1);
        }
        for (int t : NO_TABLE) {
            Due.is("3: put(" + t + ", 1)", x.put(t, 1), -1);
        }
        Due.is("3: nothing done", x.table(0, 0), 16);
        Due.is("3: nothing aged", x.sightOf(0, 0, 3), 4);
        Due.is("3: sights stay", x.put(0, 2) + x.table(0, 1), 19);
        Due.is("3: greatest with the rows put", x.greatest(0, 0, 5), 6);
        Due.is("3: least with the rows put", x.least(0, 0, 5), 4);
    }

    private static void strike() {
        CountLearner x = with(10, 20, 0);
        Due.is("4: strike(0, 1)", x.strike(0, 1), 9);
        Due.is("4: strike(0, 10)", x.strike(0, 10), -1);
        x.sight(0, 0, 5, 4, false);
        for (int many : new int[] {0, -1, MIN, MAX, 10}) {
            Due.is("4: strike(0, " + many + ")", x.strike(0, many), -1);
        }
        for (int t : NO_TABLE) {
            Due.is("4: strike(" + t + ", 1)", x.strike(t, 1), -1);
        }
        Due.is("4: none to strike", x.strike(2, 1), -1);
        Due.is("4: nothing done", x.table(0, 0), 9);
        Due.is("4: nothing aged", x.sightOf(0, 0, 2), 4);
        Due.is("4: strike(0, 3)", x.strike(0, 3), 6);
        Due.is("4: least after", x.least(0, 0, 5), 1);
        Due.is("4: greatest after", x.greatest(0, 0, 5), 4);
        Due.is("4: all are struck", x.strike(1, 20), 0);
    }

    private static void sight() {
        CountLearner x = with(10, 0, 10);
        for (int[] span : NO_SPAN) {
            Due.is("5: sight(0, " + span[0] + ", " + span[1] + ")", x.sight(0, span[0], span[1], 0, false), -1);
        }
        for (int t : NO_TABLE) {
            Due.is("5: sight(" + t + ")", x.sight(t, 0, 1, 0, false), -1);
        }
        for (int count : new int[] {-1, 11, MIN, MAX}) {
            Due.is("5: count " + count, x.sight(0, 0, 1, count, false), -1);
            Due.is("5: at least " + count, x.sight(0, 0, 1, count, true), -1);
        }
        Due.is("5: nothing done", x.table(0, 1), 0);
        Due.is("5: no rows", x.sight(1, 0, 64, 1, false), -1);
        Due.is("5: no rows, none seen", x.sight(1, 0, 64, 0, false), 0);
        Due.is("5: all rows", x.sight(2, 3, 7, 10, false), 0);
        Due.is("5: an empty span", x.sight(2, 64, 64, 0, true), 1);
        for (int s = 0; s < 40; s++) {
            Due.is("5: number " + s, x.sight(0, s, s + 1, 0, false), s);
        }
        Due.is("5: one more", x.sight(0, 0, 1, 0, false), -1);
        Due.is("5: one more that begins", x.begins(0, 0, 0, 10), -1);
        Due.is("5: still 40", x.table(0, 1), 40);
        x.room(0, 1);
        Due.is("5: melted ones count", x.sight(0, 0, 1, 0, false), -1);
        Due.is("5: others have place", x.sight(2, 0, 1, 0, false), 2);
    }

    private static void begins() {
        CountLearner x = with(100, 0, 0);
        int[][] right = {
            {0, 0, 0, 64}, {1, 0, 0, 16}, {1, 3, 48, 64}, {2, 0, 0, 4}, {2, 6, 24, 28}, {2, 15, 60, 64},
            {3, 0, 0, 1}, {3, 27, 27, 28}, {3, 63, 63, 64}};
        for (int i = 0; i < right.length; i++) {
            int[] r = right[i];
            Due.is("6: begins(0, " + r[0] + ", " + r[1] + ")", x.begins(0, r[0], r[1], i), i);
            Due.is("6: from", x.sightOf(0, i, 0), r[2]);
            Due.is("6: to", x.sightOf(0, i, 1), r[3]);
            Due.is("6: least", x.sightOf(0, i, 2), i);
            Due.is("6: greatest", x.sightOf(0, i, 3), i);
        }
        int[][] wrong = {
            {0, 1}, {1, 4}, {2, 16}, {3, 64}, {4, 0}, {-1, 0}, {0, -1}, {3, -1}, {3, MAX}, {3, MIN}, {MAX, 0},
            {MIN, 0}, {1, 1 << 28}, {16, 0}};
        for (int[] w : wrong) {
            Due.is("6: begins(0, " + w[0] + ", " + w[1] + ")", x.begins(0, w[0], w[1], 0), -1);
        }
        for (int t : NO_TABLE) {
            Due.is("6: begins(" + t + ")", x.begins(t, 0, 0, 0), -1);
        }
        Due.is("6: too many", x.begins(0, 0, 0, 101), -1);
        Due.is("6: too few", x.begins(0, 0, 0, -1), -1);
        Due.is("6: nothing done", x.table(0, 1), right.length);
    }

    private static void room() {
        CountLearner x = with(10, 10, 10);
        for (int s = 0; s < 5; s++) {
            x.sight(0, 10 * s, 10 * s + 10, 2, false);
        }
        for (int many : new int[] {0, -1, 41, MIN, MAX}) {
            Due.is("7: room(0, " + many + ")", x.room(0, many), false);
        }
        for (int t : NO_TABLE) {
            Due.is("7: room(" + t + ", 1)", x.room(t, 1), false);
        }
        Due.is("7: it stays", x.table(0, 5), 40);
        Due.is("7: room(0, 40)", x.room(0, 40), true);
        Due.is("7: room(0, 2)", x.room(0, 2), true);
        Due.is("7: others have theirs", x.table(1, 5), 40);
        for (int s = 0; s < 5; s++) {
            Due.is("7: sight " + s, x.sightOf(0, s, 4), s < 3 ? 2 : 0);
        }
        Due.is("7: the melted say nothing", x.greatest(0, 0, 10), 6);
        Due.is("7: the guess is made anew", x.guess(0, 0, 30) + x.guess(0, 50, 64), 6);
        x.sight(0, 30, 40, 3, false);
        Due.is("7: one more melts one", x.sightOf(0, 3, 4), 2);
        Due.is("7: the newest stay", x.sightOf(0, 4, 4), 0);
        x.sight(0, 7, 7, 1, false);
        Due.is("7: one in quarrel takes a place", x.sightOf(0, 4, 4), 2);
        Due.is("7: it is in quarrel", x.sightOf(0, 6, 4), 1);
        Due.is("7: melted in all", x.table(0, 4), 5);
        Due.is("7: put", x.put(0, 1) + x.strike(0, 3), 19);
        Due.is("7: the melted age, least", x.sightOf(0, 0, 2), 0);
        Due.is("7: the melted age, greatest", x.sightOf(0, 0, 3), 3);
        Due.is("7: room(0, 40) again", x.room(0, 40), true);
        Due.is("7: they come back", x.table(0, 4), 0);
        Due.is("7: they are kept again", x.sightOf(0, 0, 4), 0);
    }

    private static void sightOf() {
        CountLearner x = with(10, 10, 0);
        x.sight(0, 3, 9, 4, false);
        x.sight(0, 5, 64, 6, true);
        int[][] want = {{3, 9, 4, 4, 0}, {5, 64, 6, 1000001, 0}};
        for (int s = 0; s < 2; s++) {
            for (int what = 0; what < 5; what++) {
                Due.is("8: sightOf(0, " + s + ", " + what + ")", x.sightOf(0, s, what), want[s][what]);
            }
        }
        for (int what : new int[] {-1, 5, MIN, MAX}) {
            Due.is("8: sightOf(0, 0, " + what + ")", x.sightOf(0, 0, what), -1);
        }
        for (int s : new int[] {-1, 2, 40, MIN, MAX}) {
            Due.is("8: sightOf(0, " + s + ", 0)", x.sightOf(0, s, 0), -1);
            Due.is("8: sightOf(0, " + s + ", 4)", x.sightOf(0, s, 4), -1);
        }
        for (int t : NO_TABLE) {
            Due.is("8: sightOf(" + t + ", 0, 0)", x.sightOf(t, 0, 0), -1);
        }
        Due.is("8: another table has none", x.sightOf(1, 0, 0), -1);
    }

    private static void quarrels() {
        CountLearner x = with(100, 0, 0);
        x.sight(0, 0, 64, 99, false);
        Due.is("8: against the rows", x.sightOf(0, 0, 4), 1);
        x.sight(0, 0, 10, 60, false);
        x.sight(0, 5, 30, 10, false);
        x.sight(0, 10, 40, 50, true);
        Due.is("8: the newest wins", x.sightOf(0, 3, 4), 0);
        Due.is("8: the next can be with it", x.sightOf(0, 2, 4), 0);
        Due.is("8: the oldest can't", x.sightOf(0, 1, 4), 1);
        x.room(0, 1);
        x.room(0, 3);
        Due.is("8: it can't with these three", x.sightOf(0, 1, 4), 1);
        x.put(0, 10);
        Due.is("8: with more rows it can", x.sightOf(0, 1, 4), 0);
        x.strike(0, 10);
        Due.is("8: and with less bounds", x.sightOf(0, 1, 4), 0);
        x.sight(0, 0, 10, 5, false);
        Due.is("8: a newer count of the same span", x.sightOf(0, 4, 4), 0);
        x.room(0, 40);
        Due.is("8: the older count is in quarrel", x.sightOf(0, 1, 4), 1);
        x.sight(0, 20, 20, 1, true);
        Due.is("8: rows in no value", x.sightOf(0, 5, 4), 1);
        x.sight(0, 20, 20, 0, false);
        Due.is("8: no rows in no value", x.sightOf(0, 6, 4), 0);
        CountLearner y = with(10, 0, 0);
        y.sight(0, 0, 20, 5, true);
        y.sight(0, 20, 40, 4, false);
        y.sight(0, 40, 64, 2, false);
        Due.is("8: three, each pair of which could be", y.sightOf(0, 0, 4), 1);
    }

    private static void aging() {
        CountLearner x = with(500000, 0, 0);
        x.sight(0, 0, 10, 400000, false);
        x.sight(0, 0, 10, 300000, true);
        x.put(0, 500000);
        Due.is("8: put adds to the greatest", x.sightOf(0, 0, 3), 900000);
        Due.is("8: put leaves the least", x.sightOf(0, 0, 2), 400000);
        Due.is("8: no bound stays", x.sightOf(0, 1, 3), 1000001);
        x.strike(0, 350000);
        Due.is("8: struck from the least", x.sightOf(0, 0, 2), 50000);
        Due.is("8: not from the greatest", x.sightOf(0, 0, 3), 900000);
        Due.is("8: not below 0", x.sightOf(0, 1, 2), 0);
        x.put(0, 350000);
        Due.is("8: not above a million", x.sightOf(0, 0, 3), 1000000);
        Due.is("8: put gives the least nothing back", x.sightOf(0, 1, 2), 0);
        x.sight(0, 0, 10, 7, false);
        Due.is("8: a later sight has not aged", x.sightOf(0, 2, 3), 7);
    }

    private static void least() {
        CountLearner x = with(100, 50, 0);
        Due.is("9: all", x.least(0, 0, 64), 100);
        Due.is("9: nearly all", x.least(0, 0, 63), 0);
        Due.is("9: no value", x.least(0, 64, 64), 0);
        x.sight(0, 0, 16, 40, false);
        x.sight(0, 8, 24, 50, true);
        Due.is("9: one sight", x.least(0, 0, 16), 40);
        Due.is("9: around it", x.least(0, 0, 20), 40);
        Due.is("9: what the others leave", x.least(0, 16, 64), 60);
        Due.is("9: from two", x.least(0, 16, 24), 10);
        Due.is("9: within", x.least(0, 0, 8), 0);
        Due.is("9: another table", x.least(1, 0, 64), 50);
        x.sight(1, 3, 9, 20, false);
        Due.is("9: at once after a sight", x.least(1, 3, 9), 20);
        for (int[] span : NO_SPAN) {
            Due.is("9: least(0, " + span[0] + ", " + span[1] + ")", x.least(0, span[0], span[1]), -1);
        }
        for (int t : NO_TABLE) {
            Due.is("9: least(" + t + ")", x.least(t, 0, 64), -1);
        }
    }

    private static void greatest() {
        CountLearner x = with(100, 50, 0);
        Due.is("10: all", x.greatest(0, 0, 64), 100);
        Due.is("10: one value", x.greatest(0, 63, 64), 100);
        Due.is("10: no value", x.greatest(0, 0, 0), 0);
        x.sight(0, 0, 16, 40, false);
        x.sight(0, 8, 24, 50, true);
        Due.is("10: one sight", x.greatest(0, 0, 16), 40);
        Due.is("10: within", x.greatest(0, 3, 4), 40);
        Due.is("10: what the others leave", x.greatest(0, 16, 64), 60);
        Due.is("10: across", x.greatest(0, 15, 17), 100);
        Due.is("10: below a cut off one", x.greatest(0, 0, 8), 40);
        Due.is("10: after both", x.greatest(0, 24, 64), 50);
        Due.is("10: another table", x.greatest(1, 2, 3), 50);
        for (int[] span : NO_SPAN) {
            Due.is("10: greatest(0, " + span[0] + ", " + span[1] + ")", x.greatest(0, span[0], span[1]), -1);
        }
        for (int t : NO_TABLE) {
            Due.is("10: greatest(" + t + ")", x.greatest(t, 0, 64), -1);
        }
    }

    private static void guess() {
        CountLearner x = with(100, 64, 1000000);
        for (int v = 0; v < 64; v++) {
            Due.is("11: of 100, value " + v, x.guess(0, v, v + 1), v < 28 ? 1 : 2);
            Due.is("11: of 64, value " + v, x.guess(1, v, v + 1), 1);
            Due.is("11: of a million, value " + v, x.guess(2, v, v + 1), 15625);
        }
        Due.is("11: parts add up", x.guess(0, 10, 30) + x.guess(0, 30, 50), x.guess(0, 10, 50));
        Due.is("11: no value", x.guess(0, 9, 9), 0);
        for (int[] span : NO_SPAN) {
            Due.is("11: guess(0, " + span[0] + ", " + span[1] + ")", x.guess(0, span[0], span[1]), -1);
        }
        for (int t : NO_TABLE) {
            Due.is("11: guess(" + t + ")", x.guess(t, 0, 64), -1);
        }
        x.rows(1, 63);
        Due.is("11: rows for all but the first", x.guess(1, 0, 1), 0);
        Due.is("11: and one for each other", x.guess(1, 1, 2), 1);
    }

    private static void guessWithinBounds() {
        CountLearner x = with(640, 640, 640);
        x.sight(0, 0, 10, 20, false);
        int[] few = {10, 10, 0, 0, 0, 0, 0, 0, 0, 0, 11};
        for (int v = 0; v < few.length; v++) {
            Due.is("11: few below, value " + v, x.guess(0, v, v + 1), few[v]);
        }
        x.sight(1, 63, 64, 630, true);
        Due.is("11: many above, value 0", x.guess(1, 0, 1), 10);
        Due.is("11: many above, value 1", x.guess(1, 1, 2), 0);
        Due.is("11: many above, value 63", x.guess(1, 63, 64), 630);
        x.sight(2, 0, 1, 100, true);
        Due.is("11: many below, value 0", x.guess(2, 0, 1), 100);
        Due.is("11: many below, value 1", x.guess(2, 1, 2), 8);
        x.sight(2, 0, 2, 110, false);
        Due.is("11: no less than must be, value 1", x.guess(2, 1, 2), 10);
        Due.is("11: what is left, value 2", x.guess(2, 2, 3), 8);
        x.put(2, 64);
        Due.is("11: anew after put", x.guess(2, 2, 3), 9);
        x.strike(2, 604);
        Due.is("11: anew after strike", x.guess(2, 0, 1), 1);
    }

    private static void join() {
        CountLearner x = with(100, 64, 2);
        Due.is("12: join(0, 1)", x.join(0, 1, 0, 64), 100);
        Due.is("12: join(1, 0)", x.join(1, 0, 20, 30), 12);
        Due.is("12: join(0, 0)", x.join(0, 0, 0, 64), 28 + 4 * 36);
        Due.is("12: join(0, 2)", x.join(0, 2, 0, 64), 4);
        Due.is("12: over no value", x.join(0, 1, 5, 5), 0);
        for (int[] span : NO_SPAN) {
            Due.is("12: join(0, 1, " + span[0] + ", " + span[1] + ")", x.join(0, 1, span[0], span[1]), -1);
        }
        for (int t : NO_TABLE) {
            Due.is("12: join(" + t + ", 0)", x.join(t, 0, 0, 64), -1);
            Due.is("12: join(0, " + t + ")", x.join(0, t, 0, 64), -1);
        }
        CountLearner y = allAt(9, 1000000, 1000000, 1000000);
        Due.is("12: a great join", y.join(0, 2, 0, 64), 1000000000000L);
        Due.is("12: a great join at its value", y.join(1, 1, 9, 10), 1000000000000L);
        Due.is("12: a great join beside its value", y.join(0, 1, 10, 64), 0);
    }

    private static void truth() {
        CountLearner x = with(100000, 7, 0);
        Due.is("13: truth(0, 0, 100000)", x.truth(0, 0, 100000), true);
        Due.is("13: it is told", x.agrees(0), 1);
        Due.is("13: truth(1, 63, 7)", x.truth(1, 63, 7), true);
        Due.is("13: truth(1, 62, 0)", x.truth(1, 62, 0), true);
        Due.is("13: it is told", x.agrees(1), 1);
        for (int value : new int[] {-1, 64, MIN, MAX}) {
            Due.is("13: truth(0, " + value + ", 1)", x.truth(0, value, 1), false);
        }
        for (int many : new int[] {-1, 100001, MIN, MAX}) {
            Due.is("13: truth(0, 0, " + many + ")", x.truth(0, 0, many), false);
        }
        for (int t : NO_TABLE) {
            Due.is("13: truth(" + t + ", 0, 1)", x.truth(t, 0, 1), false);
        }
        Due.is("13: nothing done", x.agrees(0), 1);
        Due.is("13: rows stay", x.table(0, 0), 100000);
        Due.is("13: the guess stays", x.guess(0, 0, 1), 1562);
        Due.is("13: told anew", x.truth(1, 63, 6), true);
        Due.is("13: it is the new one", x.agrees(1), 0);
    }

    private static void agrees() {
        CountLearner x = with(10, 0, 0);
        for (int t : NO_TABLE) {
            Due.is("14: agrees(" + t + ")", x.agrees(t), -1);
        }
        Due.is("14: less than the rows", x.agrees(0), 0);
        x.truth(0, 5, 4);
        x.truth(0, 20, 6);
        Due.is("14: the rows", x.agrees(0), 1);
        x.sight(0, 0, 20, 4, false);
        x.sight(0, 5, 6, 4, false);
        x.sight(0, 20, 64, 5, true);
        Due.is("14: three sights", x.agrees(0), 1);
        x.sight(0, 6, 20, 1, true);
        Due.is("14: too few, and others now in quarrel", x.agrees(0), 0);
        x.sight(0, 6, 21, 0, false);
        Due.is("14: too many", x.agrees(0), 0);
        x.truth(0, 20, 0);
        x.truth(0, 21, 6);
        Due.is("14: sights in quarrel don't matter", x.agrees(0), 1);
        x.sight(0, 0, 5, 1, false);
        Due.is("14: the newest matters", x.agrees(0), 0);
        x.sight(0, 60, 64, 0, false);
        x.room(0, 1);
        Due.is("14: melted sights don't matter", x.agrees(0), 1);
        x.put(0, 1);
        Due.is("14: one row put", x.agrees(0), 0);
        x.truth(0, 63, 1);
        Due.is("14: the greatest has grown", x.agrees(0), 1);
        x.truth(0, 21, 100000);
        Due.is("14: more than the rows", x.agrees(0), 0);
        CountLearner full = with(40, 0, 0);
        for (int s = 0; s < 40; s++) {
            full.truth(0, s, 1);
            full.sight(0, s, s + 1, 1, false);
        }
        Due.is("14: forty sights", full.agrees(0), 1);
        onlySight(3, false, 0);
        onlySight(4, false, 1);
        onlySight(5, false, 0);
        onlySight(3, true, 1);
        onlySight(4, true, 1);
        onlySight(5, true, 0);
    }

    /** The truth has 4 rows where the one sight has so many. */
    private static void onlySight(int count, boolean atLeast, int agrees) {
        CountLearner x = with(10, 0, 0);
        x.truth(0, 19, 4);
        x.truth(0, 20, 6);
        x.sight(0, 0, 20, count, atLeast);
        Due.is("14: the only sight, " + count + ", " + atLeast, x.agrees(0), agrees);
    }

    private static void cost() {
        CountLearner x = allAt(5, 2, 3, 4);
        long[] guessed = {6 + 24, 8 + 24, 6 + 24, 12 + 24, 8 + 24, 12 + 24};
        x.truth(0, 1, 5);
        x.truth(1, 1, 7);
        x.truth(2, 2, 9);
        x.truth(0, 2, 2);
        x.truth(1, 63, 3);
        x.truth(2, 63, 100000);
        long[] truly = {35, 18, 35, 300000, 18, 300000};
        for (int order = 0; order < 6; order++) {
            Due.is("15: cost(" + order + ", false)", x.cost(order, false), guessed[order]);
            Due.is("15: cost(" + order + ", true)", x.cost(order, true), truly[order]);
        }
        for (int order : new int[] {-1, 6, MIN, MAX}) {
            Due.is("15: cost(" + order + ", false)", x.cost(order, false), -1);
            Due.is("15: cost(" + order + ", true)", x.cost(order, true), -1);
        }
        CountLearner y = allAt(63, 1000000, 1000000, 1000000);
        Due.is("15: the greatest by guesses", y.cost(3, false), 1000001000000000000L);
        for (int v = 0; v < 64; v++) {
            for (int t = 0; t < 3; t++) {
                y.truth(t, v, 100000);
            }
        }
        Due.is("15: the greatest by the truth", y.cost(4, true), 64 * 1000010000000000L);
    }

    private static void plan() {
        CountLearner x = allAt(5, 2, 3, 4);
        Due.is("16: 0 and 1 first", x.plan(false), 0);
        Due.is("16: no truth", x.plan(true), 0);
        x.truth(0, 0, 9);
        x.truth(1, 0, 8);
        x.truth(2, 0, 7);
        Due.is("16: 1 and 2 first", x.plan(true), 3);
        x.truth(1, 0, 10);
        Due.is("16: 0 and 2 first", x.plan(true), 1);
        x.truth(0, 0, 10);
        Due.is("16: of two the first", x.plan(true), 1);
        Due.is("16: the truth is no guess", x.plan(false), 0);
        x.rows(0, 6400);
        Due.is("16: guesses change", x.plan(false), 3);
        Due.is("16: all alike", allAt(1, 3, 3, 3).plan(false), 0);
    }

    private static void lost() {
        CountLearner x = allAt(5, 2, 3, 4);
        Due.is("17: no truth", x.lost(), 0);
        x.truth(0, 0, 10);
        x.truth(1, 0, 10);
        x.truth(2, 0, 1);
        Due.is("17: the plan is bad", x.lost(), 90);
        x.truth(2, 0, 10);
        Due.is("17: the plan is as good", x.lost(), 0);
        x.truth(0, 0, 1);
        Due.is("17: the plan is one of the best", x.lost(), 0);
        x.rows(0, 6400);
        Due.is("17: another plan", x.lost(), 90);
    }

    private static void table() {
        CountLearner x = with(10, 5, 0);
        x.sight(0, 0, 5, 3, false);
        x.sight(0, 0, 5, 4, false);
        x.sight(0, 0, 5, 5, false);
        x.sight(0, 5, 9, 5, false);
        x.room(0, 3);
        int[] want = {10, 4, 2, 1, 1, 3};
        for (int what = 0; what < 6; what++) {
            Due.is("18: table(0, " + what + ")", x.table(0, what), want[what]);
        }
        for (int what : new int[] {-1, 6, MIN, MAX}) {
            Due.is("18: table(0, " + what + ")", x.table(0, what), -1);
        }
        for (int t : NO_TABLE) {
            Due.is("18: table(" + t + ", 0)", x.table(t, 0), -1);
        }
        Due.is("18: another table", x.table(1, 0), 5);
        Due.is("18: another table's sights", x.table(1, 1), 0);
    }
}
