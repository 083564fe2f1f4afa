/** The sentences of "Terms" that name a bound: one test for each, with the answers written out. */
final class TermsBoundsTest {
    private static final int MILLION = 1000000;
    private static final int NO_BOUND = 1000001;

    private TermsBoundsTest() {
    }

    public static void main(String[] args) {
        threeTables();
        rowsAtFirst();
        rowsToAMillion();
        valuesToSixtyThree();
        fromOnAndBelow();
        emptyAndWholeSpans();
        textsOfLetters();
        firstLetterHighest();
        fortySights();
        fortySightsInAChain();
        numberedAsTheyCome();
        countBothOrNoBound();
        greatestToAMillion();
        onlyRowsPutLater();
        leastNotBelowZero();
        onlyRowsStruckLater();
        roomAtFirst();
        newestInRoom();
        meltedSayNothing();
        noValueBelowZero();
        rowsInAll();
        leastAndGreatestOfSpans();
        quarrelWithNewerKept();
        askedAnew();
        leastAndGreatestThatCanBe();
        guessIsCut();
        guessNoLessAndNoMore();
        guessWithThoseBelow();
        joinAddsProducts();
        ordersByFirstThenSecond();
        costOfAllThree();
        ofSeveralTheLeast();
        truthAtFirst();
        lostAtItsBounds();
        Due.end();
    }

    /** A learner whose table 0 has so many rows. */
    private static CountLearner with(int rows) {
        CountLearner x = new CountLearner();
        x.rows(0, rows);
        return x;
    }

    private static void threeTables() {
        Due.about("TABLES 0 to 2");
        CountLearner x = new CountLearner();
        for (int t = 0; t < 3; t++) {
            Due.is("rows of " + t, x.rows(t, 10 + t), true);
            Due.is("sight of " + t, x.sight(t, t, t + 1, t, false), 0);
            Due.is("room of " + t, x.room(t, 20 + t), true);
            Due.is("truth of " + t, x.truth(t, 63, 10 + t), true);
        }
        for (int t = 0; t < 3; t++) {
            Due.is("its rows " + t, x.table(t, 0), 10 + t);
            Due.is("its sight " + t, x.sightOf(t, 0, 2), t);
            Due.is("its room " + t, x.table(t, 5), 20 + t);
            Due.is("its truth " + t, x.agrees(t), t == 0 ? 1 : 0);
        }
        for (int t : Edges.around(0, 2)) {
            Due.is("table " + t, x.table(t, 1), t >= 0 && t <= 2 ? 1 : -1);
        }
    }

    private static void rowsAtFirst() {
        Due.about("ROWS 0 at first");
        for (int t = 0; t < 3; t++) {
            CountLearner x = new CountLearner();
            Due.is("rows", x.table(t, 0), 0);
            Due.is("none to strike", x.strike(t, 1), -1);
            Due.is("a sight of one", x.sight(t, 0, 64, 1, true), -1);
            Due.is("a sight of none", x.sight(t, 0, 64, 0, false), 0);
            Due.is("place for a million and one", x.put(t, MILLION + 1), -1);
            Due.is("place for a million", x.put(t, MILLION), MILLION);
        }
    }

    private static void rowsToAMillion() {
        Due.about("ROWS 0 to 1,000,000");
        for (int many : Edges.around(0, MILLION)) {
            boolean right = many >= 0 && many <= MILLION;
            CountLearner x = with(17);
            Due.is("rows(0, " + many + ")", x.rows(0, many), right);
            Due.is("then", x.table(0, 0), right ? many : 17);
            Due.is("at least", x.least(0, 0, 64), right ? many : 17);
            Due.is("at most", x.greatest(0, 63, 64), right ? many : 17);
            Due.is("by guess", x.guess(0, 0, 64), right ? many : 17);
        }
        CountLearner x = with(MILLION - 1);
        Due.is("the last one", x.put(0, 1), MILLION);
        Due.is("one too many", x.put(0, 1), -1);
        Due.is("down to one", x.strike(0, MILLION - 1), 1);
        Due.is("down to none", x.strike(0, 1), 0);
        Due.is("below none", x.strike(0, 1), -1);
        Due.is("and up", x.put(0, 1), 1);
    }

    private static void valuesToSixtyThree() {
        Due.about("each row has a VALUE 0 to 63");
        CountLearner x = with(10);
        x.sight(0, 0, 1, 4, false);
        x.sight(0, 63, 64, 6, false);
        Due.is("none between", x.greatest(0, 1, 63), 0);
        Due.is("the first", x.least(0, 0, 1), 4);
        Due.is("the last", x.guess(0, 63, 64), 6);
        for (int value : Edges.around(0, 63)) {
            CountLearner y = with(5);
            boolean right = value >= 0 && value <= 63;
            Due.is("truth(0, " + value + ", 5)", y.truth(0, value, 5), right);
            Due.is("it is there", y.agrees(0), right ? 1 : 0);
        }
    }

    private static void fromOnAndBelow() {
        Due.about("A SPAN a, b: the VALUES from a on and below b");
        CountLearner x = with(8);
        x.sight(0, 10, 20, 8, false);
        Due.is("below a", x.greatest(0, 9, 10), 0);
        Due.is("a", x.greatest(0, 10, 11), 8);
        Due.is("after a", x.greatest(0, 11, 12), 8);
        Due.is("before b", x.greatest(0, 19, 20), 8);
        Due.is("b", x.greatest(0, 20, 21), 0);
        Due.is("from a to b", x.least(0, 10, 20), 8);
        Due.is("without a", x.least(0, 11, 20), 0);
        Due.is("without the last", x.least(0, 10, 19), 0);
        x.truth(0, 10, 4);
        x.truth(0, 19, 4);
        Due.is("a and the last one are in it", x.agrees(0), 1);
        x.truth(0, 19, 0);
        x.truth(0, 20, 4);
        Due.is("b is not", x.agrees(0), 0);
        x.truth(0, 20, 0);
        x.truth(0, 9, 4);
        Due.is("nor what is below a", x.agrees(0), 0);
    }

    private static void emptyAndWholeSpans() {
        Due.about("0 <= a <= b <= 64");
        int[] ends = Edges.around(0, 30, 64);
        for (int a : ends) {
            CountLearner x = with(40);
            for (int b : ends) {
                boolean right = 0 <= a && a <= b && b <= 64;
                String span = "(" + a + ", " + b + ")";
                long whole = right && a == 0 && b == 64 ? 40 : 0;
                Due.is("least" + span, x.least(0, a, b), right ? whole : -1);
                Due.is("greatest" + span, x.greatest(0, a, b), right ? a == b ? 0 : 40 : -1);
                Due.is("guess" + span, x.guess(0, a, b) >= 0, right);
                Due.is("join" + span, x.join(0, 1, a, b), right ? 0 : -1);
                int before = x.table(0, 1);
                Due.is("sight" + span, x.sight(0, a, b, 0, true), right ? before : -1);
            }
        }
        for (int a = 0; a <= 64; a++) {
            CountLearner x = with(40);
            Due.is("guess of no value " + a, x.guess(0, a, a), 0);
            Due.is("join over no value " + a, x.join(0, 0, a, a), 0);
            x.sight(0, a, a, 0, false);
            x.sight(0, a, a, 0, true);
            x.sight(0, a, a, 1, false);
            x.sight(0, a, a, 1, true);
            Due.is("none in no value " + a, x.table(0, 2), 2);
            Due.is("some in no value " + a, x.table(0, 3), 2);
        }
    }

    private static void textsOfLetters() {
        Due.about("Texts of up to three letters 0 to 3");
        int[] texts = {1, 4, 16, 64};
        for (int n = 0; n <= 3; n++) {
            int width = 64 / texts[n];
            for (int v = 0; v < texts[n]; v++) {
                CountLearner x = with(9);
                Due.is("begins(0, " + n + ", " + v + ", 9)", x.begins(0, n, v, 9), 0);
                Due.is("from", x.sightOf(0, 0, 0), v * width);
                Due.is("to", x.sightOf(0, 0, 1), v * width + width);
                Due.is("all are in it", x.least(0, v * width, v * width + width), 9);
            }
            for (int v : Edges.around(0, texts[n] - 1)) {
                boolean right = v >= 0 && v < texts[n];
                Due.is("begins(0, " + n + ", " + v + ", 1)", with(9).begins(0, n, v, 1), right ? 0 : -1);
            }
        }
        for (int n : Edges.around(0, 3)) {
            for (int v : Edges.around(0, 63)) {
                boolean right = n >= 0 && n <= 3 && v >= 0 && v < texts[n];
                Due.is("begins(0, " + n + ", " + v + ", 1)", with(9).begins(0, n, v, 1), right ? 0 : -1);
            }
        }
    }

    private static void firstLetterHighest() {
        Due.about("the first letter the highest");
        CountLearner x = with(9);
        x.begins(0, 3, 1 * 16 + 2 * 4 + 3, 9);
        Due.is("1 2 3 is value 27", x.least(0, 27, 28), 9);
        x.begins(0, 2, 1 * 4 + 2, 9);
        x.begins(0, 1, 1, 9);
        x.begins(0, 0, 0, 9);
        Due.is("it begins with 1 2, with 1 and with nothing", x.table(0, 2), 4);
        x.begins(0, 1, 3, 1);
        x.begins(0, 2, 2 * 4 + 1, 0);
        Due.is("it doesn't begin with 3, so that quarrels with all before", x.sightOf(0, 0, 4), 1);
        Due.is("nor with 2 1", x.sightOf(0, 5, 4), 0);
    }

    private static void fortySights() {
        Due.about("SIGHTS, up to 40 of a TABLE");
        CountLearner x = with(5);
        x.rows(1, 5);
        for (int s = 0; s < 40; s++) {
            Due.is("before", x.table(0, 1), s);
            Due.is("sight " + s, s % 2 == 0 ? x.sight(0, 0, 64, 5, false) : x.begins(0, 0, 0, 5), s);
        }
        Due.is("40", x.table(0, 1), 40);
        Due.is("one more", x.sight(0, 0, 64, 5, false), -1);
        Due.is("one more at least", x.sight(0, 0, 0, 0, true), -1);
        Due.is("one more text", x.begins(0, 3, 63, 0), -1);
        Due.is("still 40", x.table(0, 1), 40);
        Due.is("the last one stays", x.sightOf(0, 39, 1), 64);
        Due.is("there is no 41st", x.sightOf(0, 40, 0), -1);
        Due.is("another table has its own 40", x.sight(1, 0, 64, 5, false), 0);
        x.room(0, 1);
        Due.is("melted ones are among the 40", x.sight(0, 0, 64, 5, false), -1);
        x.rows(0, 5);
        Due.is("after rows there is place", x.sight(0, 0, 64, 5, false), 0);
    }

    /** Each sight goes on where the last one ended, to and fro: only all 40 together tell the ends of the chain. */
    private static void fortySightsInAChain() {
        Due.about("SIGHTS, up to 40, that can be together");
        for (int run = 0; run < 40; run++) {
            int[] chain = shuffledMarks(new Dice(run));
            for (boolean backwards : new boolean[] {false, true}) {
                CountLearner x = with(64 * 64);
                for (int s = 0; s < 40; s++) {
                    int link = backwards ? 39 - s : s;
                    int a = Math.min(chain[link], chain[link + 1]);
                    int b = Math.max(chain[link], chain[link + 1]);
                    Due.is("sight", x.sight(0, a, b, b * b - a * a, false), s);
                }
                int a = Math.min(chain[0], chain[40]);
                int b = Math.max(chain[0], chain[40]);
                Due.is("kept", x.table(0, 2), 40);
                Due.is("least from end to end", x.least(0, a, b), b * b - a * a);
                Due.is("greatest from end to end", x.greatest(0, a, b), b * b - a * a);
                Due.is("guess from end to end", x.guess(0, a, b), b * b - a * a);
            }
        }
    }

    private static int[] shuffledMarks(Dice dice) {
        int[] marks = new int[65];
        for (int i = 0; i <= 64; i++) {
            int at = dice.from(0, i);
            marks[i] = marks[at];
            marks[at] = i;
        }
        return marks;
    }

    private static void numberedAsTheyCome() {
        Due.about("numbered as they come");
        CountLearner x = with(50);
        for (int s = 0; s < 40; s++) {
            Due.is("a refused one takes no number", x.sight(0, 0, 1, 51, false), -1);
            Due.is("number", x.sight(0, s, s + 2, s, true), s);
        }
        for (int s = 0; s < 40; s++) {
            Due.is("from of " + s, x.sightOf(0, s, 0), s);
            Due.is("to of " + s, x.sightOf(0, s, 1), s + 2);
            Due.is("least of " + s, x.sightOf(0, s, 2), s);
        }
    }

    private static void countBothOrNoBound() {
        Due.about("the count both, or the count and no bound");
        for (int rows : new int[] {0, 1, 2, 500, MILLION - 1, MILLION}) {
            for (int count : Edges.around(0, rows)) {
                boolean right = count >= 0 && count <= rows;
                CountLearner x = with(rows);
                String of = count + " of " + rows;
                Due.is("just " + of, x.sight(0, 0, 9, count, false), right ? 0 : -1);
                Due.is("at least " + of, x.sight(0, 0, 9, count, true), right ? 1 : -1);
                Due.is("LEAST, just " + of, x.sightOf(0, 0, 2), right ? count : -1);
                Due.is("GREATEST, just " + of, x.sightOf(0, 0, 3), right ? count : -1);
                Due.is("LEAST, at least " + of, x.sightOf(0, 1, 2), right ? count : -1);
                Due.is("GREATEST, at least " + of, x.sightOf(0, 1, 3), right ? NO_BOUND : -1);
            }
        }
    }

    private static void greatestToAMillion() {
        Due.about("rows that are PUT later add to the GREATEST (1,000,000 at most)");
        CountLearner x = with(500000);
        x.sight(0, 0, 64, 500000, false);
        x.sight(0, 0, 0, 0, false);
        x.sight(0, 0, 9, 500000, true);
        int[][] steps = {
            {0, 499998, 999998, 499998}, {0, 1, 999999, 499999}, {0, 1, MILLION, 500000},
            {1, 2, MILLION, 500000}, {0, 1, MILLION, 500001}, {0, 1, MILLION, 500002},
            {1, MILLION, MILLION, 500002}, {0, 499997, MILLION, 999999}, {0, 1, MILLION, MILLION},
            {0, 1, MILLION, MILLION}, {1, 1, MILLION, MILLION}, {0, 500002, MILLION, MILLION},
            {1, MILLION, MILLION, MILLION}, {0, MILLION, MILLION, MILLION}};
        for (int[] step : steps) {
            String done = (step[0] == 0 ? "put " : "struck ") + step[1];
            Due.is(done, (step[0] == 0 ? x.put(0, step[1]) : x.strike(0, step[1])) >= 0, true);
            Due.is("GREATEST of many, " + done, x.sightOf(0, 0, 3), step[2]);
            Due.is("GREATEST of none, " + done, x.sightOf(0, 1, 3), step[3]);
            Due.is("no bound stays, " + done, x.sightOf(0, 2, 3), NO_BOUND);
        }
        for (int many : new int[] {0, -1, 1, Edges.MIN, Edges.MAX}) {
            Due.is("put at the bound is refused", x.put(0, many), -1);
            Due.is("and leaves the GREATEST", x.sightOf(0, 1, 3), MILLION);
        }
    }

    private static void onlyRowsPutLater() {
        Due.about("rows that are PUT later");
        CountLearner x = with(10);
        x.sight(0, 0, 9, 3, false);
        x.put(0, 1);
        x.sight(0, 0, 9, 3, false);
        x.put(1, 7);
        Due.is("the older", x.sightOf(0, 0, 3), 4);
        Due.is("the newer", x.sightOf(0, 1, 3), 3);
        Due.is("the LEAST stays", x.sightOf(0, 0, 2), 3);
        x.strike(0, 1);
        Due.is("struck rows leave the GREATEST", x.sightOf(0, 0, 3), 4);
    }

    private static void leastNotBelowZero() {
        Due.about("rows STRUCK later take from the LEAST (0 at least)");
        CountLearner x = with(10);
        x.sight(0, 0, 9, 3, false);
        x.sight(0, 0, 9, 4, true);
        x.sight(0, 0, 9, 0, false);
        int[][] steps = {{2, 1, 2}, {1, 0, 1}, {1, 0, 0}, {1, 0, 0}, {5, 0, 0}};
        for (int[] step : steps) {
            Due.is("struck " + step[0], x.strike(0, step[0]) >= 0, true);
            Due.is("LEAST of 3, struck " + step[0], x.sightOf(0, 0, 2), step[1]);
            Due.is("LEAST of 4 at least, struck " + step[0], x.sightOf(0, 1, 2), step[2]);
            Due.is("LEAST of 0, struck " + step[0], x.sightOf(0, 2, 2), 0);
        }
        Due.is("no row left", x.strike(0, 1), -1);
        Due.is("GREATEST stays", x.sightOf(0, 0, 3), 3);
        Due.is("LEAST doesn't grow again", x.put(0, 10) + x.sightOf(0, 1, 2), 10);
        CountLearner y = with(MILLION);
        y.sight(0, 0, 9, 1, false);
        y.sight(0, 0, 9, MILLION, false);
        y.strike(0, MILLION);
        Due.is("far below", y.sightOf(0, 0, 2), 0);
        Due.is("just so far", y.sightOf(0, 1, 2), 0);
    }

    private static void onlyRowsStruckLater() {
        Due.about("rows STRUCK later");
        CountLearner x = with(10);
        x.strike(0, 2);
        x.sight(0, 0, 9, 3, false);
        Due.is("not those before", x.sightOf(0, 0, 2), 3);
        Due.is("a refused one takes nothing", x.strike(0, 9) + x.sightOf(0, 0, 2), 2);
        x.rows(1, 10);
        x.strike(1, 2);
        Due.is("not another table's", x.sightOf(0, 0, 2), 3);
        x.strike(0, 1);
        Due.is("these", x.sightOf(0, 0, 2), 2);
    }

    private static void roomAtFirst() {
        Due.about("ROOM, 1 to 40; 40 at first");
        for (int many : Edges.around(1, 40)) {
            CountLearner x = with(5);
            Due.is("at first", x.table(0, 5), 40);
            boolean right = many >= 1 && many <= 40;
            Due.is("room(0, " + many + ")", x.room(0, many), right);
            Due.is("then", x.table(0, 5), right ? many : 40);
            x.room(0, 7);
            x.room(0, many);
            Due.is("after 7", x.table(0, 5), right ? many : 7);
            Due.is("of another table", x.table(1, 5), 40);
        }
    }

    private static void newestInRoom() {
        Due.about("At most so many may be kept: the newest; others are MELTED");
        for (int sights : new int[] {1, 2, 39, 40}) {
            for (int room : new int[] {1, 2, 38, 39, 40}) {
                CountLearner x = with(5);
                for (int s = 0; s < sights; s++) {
                    x.sight(0, 0, 9, 5, false);
                }
                x.room(0, room);
                int melted = Math.max(sights - room, 0);
                String when = sights + " sights, room " + room;
                Due.is("melted of " + when, x.table(0, 4), melted);
                Due.is("kept of " + when, x.table(0, 2), sights - melted);
                Due.is("in quarrel of " + when, x.table(0, 3), 0);
                for (int s = 0; s < sights; s++) {
                    Due.is("sight " + s + " of " + when, x.sightOf(0, s, 4), s < melted ? 2 : 0);
                }
            }
        }
    }

    private static void meltedSayNothing() {
        Due.about("others are MELTED");
        CountLearner x = with(10);
        x.sight(0, 0, 9, 10, false);
        x.sight(0, 9, 64, 3, true);
        Due.is("the older is in quarrel", x.sightOf(0, 0, 4), 1);
        x.room(0, 1);
        Due.is("now it is melted", x.sightOf(0, 0, 4), 2);
        Due.is("the newest is kept", x.sightOf(0, 1, 4), 0);
        x.sight(0, 9, 64, 0, false);
        Due.is("a newer one melts it", x.sightOf(0, 1, 4), 2);
        Due.is("and holds", x.greatest(0, 9, 64), 0);
        x.sight(0, 5, 5, 1, false);
        Due.is("one in quarrel melts it too", x.sightOf(0, 2, 4), 2);
        Due.is("none is kept", x.table(0, 2), 0);
        Due.is("nothing holds", x.greatest(0, 9, 64), 10);
        x.truth(0, 63, 10);
        Due.is("the truth need not agree with them", x.agrees(0), 1);
        x.room(0, 2);
        Due.is("with more room it is kept again", x.sightOf(0, 2, 4), 0);
        Due.is("and must agree", x.agrees(0), 0);
    }

    private static void noValueBelowZero() {
        Due.about("a whole number of rows, 0 at least");
        for (int inner = 0; inner <= 10; inner++) {
            CountLearner x = with(10);
            x.sight(0, 0, 5, inner, false);
            x.sight(0, 0, 5, inner, true);
            x.sight(0, 0, 10, 4, false);
            Due.is(inner + " within 4", x.sightOf(0, 0, 4), inner <= 4 ? 0 : 1);
            Due.is("at least " + inner + " within 4", x.sightOf(0, 1, 4), inner <= 4 ? 0 : 1);
        }
        CountLearner x = with(1);
        x.sight(0, 0, 2, 1, false);
        Due.is("a row can't be parted", x.guess(0, 0, 1) + x.guess(0, 1, 2), 1);
    }

    private static void rowsInAll() {
        Due.about("ROWS in all");
        for (int count = 0; count <= 10; count++) {
            CountLearner x = with(10);
            x.sight(0, 0, 64, count, true);
            x.sight(0, 0, 64, count, false);
            Due.is("just " + count + " of 10", x.sightOf(0, 1, 4), count == 10 ? 0 : 1);
            Due.is("at least " + count + " of 10", x.sightOf(0, 0, 4), 0);
            x.put(0, 1);
            Due.is("just " + count + " of 10, one put", x.sightOf(0, 1, 4), count == 10 ? 0 : 1);
            x.strike(0, 2);
            Due.is("just " + count + " of 10, then two struck", x.sightOf(0, 1, 4), count >= 8 ? 0 : 1);
        }
        for (int count = 0; count <= 10; count++) {
            CountLearner x = with(10);
            x.sight(0, 0, 32, count, true);
            x.sight(0, 0, 32, count, false);
            x.sight(0, 32, 64, 6, false);
            Due.is("just " + count + " beside 6", x.sightOf(0, 1, 4), count == 4 ? 0 : 1);
            Due.is("at least " + count + " beside 6", x.sightOf(0, 0, 4), count <= 4 ? 0 : 1);
        }
    }

    private static void leastAndGreatestOfSpans() {
        Due.about("each kept SPAN has its LEAST at least and its GREATEST at most");
        for (int count = 0; count <= 20; count++) {
            CountLearner x = with(20);
            x.sight(0, 5, 9, 8, false);
            x.put(0, 2);
            x.strike(0, 1);
            x.sight(0, 5, 9, count, false);
            Due.is("from 7 to 10, then " + count, x.sightOf(0, 0, 4), count >= 7 && count <= 10 ? 0 : 1);
            Due.is("the newest", x.sightOf(0, 1, 4), 0);
        }
        for (int count = 0; count <= 20; count++) {
            CountLearner x = with(20);
            x.sight(0, 5, 9, 8, true);
            x.put(0, 2);
            x.strike(0, 1);
            x.sight(0, 5, 9, count, false);
            Due.is("from 7 on, then " + count, x.sightOf(0, 0, 4), count >= 7 ? 0 : 1);
        }
    }

    private static void quarrelWithNewerKept() {
        Due.about("One that can't be with the newer ones KEPT is in QUARREL");
        CountLearner x = with(10);
        x.sight(0, 0, 9, 6, false);
        x.sight(0, 0, 9, 5, false);
        x.sight(0, 0, 9, 6, false);
        x.sight(0, 0, 9, 5, false);
        int[] due = {1, 0, 1, 0};
        for (int s = 0; s < 4; s++) {
            Due.is("sight " + s, x.sightOf(0, s, 4), due[s]);
        }
        Due.is("kept", x.table(0, 2), 2);
        Due.is("in quarrel", x.table(0, 3), 2);
        CountLearner all = with(10);
        for (int s = 0; s < 40; s++) {
            all.sight(0, 3, 3, 1, s % 2 == 0);
        }
        Due.is("all 40 in quarrel", all.table(0, 3), 40);
        Due.is("none kept", all.table(0, 2), 0);
        CountLearner pairs = with(10);
        pairs.sight(0, 0, 20, 5, true);
        pairs.sight(0, 20, 40, 4, false);
        pairs.sight(0, 40, 64, 2, false);
        Due.is("each pair can be, the three can't", pairs.sightOf(0, 0, 4), 1);
        pairs.strike(0, 1);
        Due.is("with one struck from each they can", pairs.sightOf(0, 0, 4), 0);
    }

    private static void askedAnew() {
        Due.about("All is asked anew whenever something changes");
        CountLearner x = with(10);
        x.sight(0, 0, 9, 6, false);
        Due.is("alone", x.sightOf(0, 0, 4), 0);
        Due.is("guess alone", x.guess(0, 0, 9), 6);
        x.sight(0, 0, 9, 7, false);
        Due.is("after a sight", x.sightOf(0, 0, 4), 1);
        Due.is("guess after a sight", x.guess(0, 0, 9), 7);
        x.put(0, 1);
        Due.is("after a put", x.sightOf(0, 0, 4), 0);
        Due.is("greatest after a put", x.greatest(0, 0, 9), 7);
        x.begins(0, 0, 0, 3);
        Due.is("a text that quarrels", x.sightOf(0, 2, 4), 1);
        x.strike(0, 8);
        Due.is("after a strike", x.sightOf(0, 2, 4), 0);
        Due.is("guess after a strike", x.guess(0, 0, 64), 3);
        x.room(0, 1);
        Due.is("after less room", x.sightOf(0, 0, 4), 2);
        Due.is("least after less room", x.least(0, 0, 9), 0);
        x.room(0, 3);
        Due.is("after more room", x.sightOf(0, 0, 4), 0);
        x.rows(0, 8);
        Due.is("after rows", x.table(0, 2), 0);
        Due.is("guess after rows", x.guess(0, 63, 64), 1);
    }

    private static void leastAndGreatestThatCanBe() {
        Due.about("the least and the greatest number of rows in a SPAN");
        for (int rows : new int[] {0, 1, MILLION - 1, MILLION}) {
            CountLearner x = with(rows);
            Due.is("least of all", x.least(0, 0, 64), rows);
            Due.is("greatest of all", x.greatest(0, 0, 64), rows);
            Due.is("least without the first", x.least(0, 1, 64), 0);
            Due.is("least without the last", x.least(0, 0, 63), 0);
            Due.is("greatest of the first", x.greatest(0, 0, 1), rows);
            Due.is("greatest of the last", x.greatest(0, 63, 64), rows);
            Due.is("greatest of no value", x.greatest(0, 0, 0), 0);
            Due.is("greatest of no value at the end", x.greatest(0, 64, 64), 0);
            x.sight(0, 1, 63, 0, false);
            x.sight(0, 0, 1, rows, true);
            Due.is("least of the first when all are there", x.least(0, 0, 1), rows);
            Due.is("greatest of the last when all are at the first", x.greatest(0, 63, 64), 0);
        }
    }

    private static void guessIsCut() {
        Due.about("of the ROWS left the part of one by the VALUES left (this one too), cut");
        int[][] due = {
            {0, 0, 0, 0}, {1, 0, 0, 1}, {62, 0, 0, 1}, {63, 0, 1, 1}, {64, 1, 1, 1}, {65, 1, 1, 2}, {127, 1, 2, 2},
            {128, 2, 2, 2}, {MILLION - 1, 15624, 15625, 15625}, {MILLION, 15625, 15625, 15625}};
        for (int[] d : due) {
            CountLearner x = with(d[0]);
            Due.is("first of " + d[0], x.guess(0, 0, 1), d[1]);
            Due.is("second of " + d[0], x.guess(0, 1, 2), d[2]);
            Due.is("last of " + d[0], x.guess(0, 63, 64), d[3]);
            Due.is("all of " + d[0], x.guess(0, 0, 64), d[0]);
            long below = 0;
            for (int value = 0; value < 64; value++) {
                below += (d[0] - below) / (64 - value);
                Due.is("below " + (value + 1) + " of " + d[0], x.guess(0, 0, value + 1), below);
            }
        }
    }

    private static void guessNoLessAndNoMore() {
        Due.about("but no less and no more than can be");
        for (int count = 0; count <= 64; count++) {
            CountLearner just = with(64);
            just.sight(0, 0, 1, count, false);
            Due.is("just " + count, just.guess(0, 0, 1), count);
            CountLearner atLeast = with(64);
            atLeast.sight(0, 0, 1, count, true);
            Due.is("at least " + count, atLeast.guess(0, 0, 1), Math.max(count, 1));
            CountLearner rest = with(64);
            rest.sight(0, 1, 64, count, true);
            Due.is("at most " + (64 - count), rest.guess(0, 0, 1), Math.min(64 - count, 1));
        }
        CountLearner last = with(MILLION);
        last.sight(0, 0, 63, 0, false);
        Due.is("all at the last", last.guess(0, 63, 64), MILLION);
        Due.is("none below it", last.guess(0, 0, 63), 0);
        CountLearner first = with(MILLION);
        first.sight(0, 0, 1, MILLION, false);
        Due.is("all at the first", first.guess(0, 0, 1), MILLION);
        Due.is("none after it", first.guess(0, 1, 64), 0);
    }

    private static void guessWithThoseBelow() {
        Due.about("with those below as they are");
        CountLearner x = with(10);
        x.sight(0, 0, 2, 10, false);
        Due.is("none is due at the first", x.guess(0, 0, 1), 0);
        Due.is("so all are at the second", x.guess(0, 1, 2), 10);
        CountLearner y = with(128);
        y.sight(0, 0, 2, 3, false);
        Due.is("the first takes its even part", y.guess(0, 0, 1), 2);
        Due.is("the second what is left for it", y.guess(0, 1, 2), 1);
        CountLearner z = with(128);
        z.sight(0, 1, 3, 0, false);
        z.sight(0, 0, 3, 1, false);
        Due.is("the first can't have more", z.guess(0, 0, 1), 1);
        Due.is("nor the next two", z.guess(0, 1, 3), 0);
        Due.is("the fourth has 127 by 61", z.guess(0, 3, 4), 2);
    }

    private static void joinAddsProducts() {
        Due.about("JOIN: GUESSES of each VALUE times one another, added");
        CountLearner x = with(MILLION);
        x.rows(1, MILLION);
        Due.is("even ones", x.join(0, 1, 0, 64), 64L * 15625 * 15625);
        Due.is("one value", x.join(0, 1, 63, 64), 15625L * 15625);
        x.sight(0, 7, 8, MILLION, false);
        x.sight(1, 7, 8, MILLION, false);
        Due.is("the most that can be", x.join(0, 1, 0, 64), 1000000000000L);
        Due.is("at its value", x.join(0, 1, 7, 8), 1000000000000L);
        Due.is("below it", x.join(0, 1, 0, 7), 0);
        Due.is("above it", x.join(0, 1, 8, 64), 0);
        Due.is("no value", x.join(0, 1, 7, 7), 0);
        Due.is("twice the same", x.join(0, 0, 0, 64), 1000000000000L);
        Due.is("with a table without rows", x.join(0, 2, 0, 64), 0);
    }

    private static void ordersByFirstThenSecond() {
        Due.about("ORDERS 0 to 5, by the first, then the second");
        CountLearner x = new CountLearner();
        int[] at = {2, 3, 5};
        for (int t = 0; t < 3; t++) {
            x.truth(t, 63, at[t]);
            x.rows(t, at[t]);
            x.sight(t, 0, 1, at[t], false);
        }
        long[] due = {6 + 30, 10 + 30, 6 + 30, 15 + 30, 10 + 30, 15 + 30};
        for (int order : Edges.around(0, 5)) {
            boolean right = order >= 0 && order <= 5;
            Due.is("cost(" + order + ", true)", x.cost(order, true), right ? due[order] : -1);
            Due.is("cost(" + order + ", false)", x.cost(order, false), right ? due[order] : -1);
        }
        for (int order = 0; order < 6; order++) {
            Due.is("cost(" + order + ", true)", x.cost(order, true), due[order]);
            Due.is("cost(" + order + ", false)", x.cost(order, false), due[order]);
        }
    }

    private static void costOfAllThree() {
        Due.about("the cost is JOIN of x and y and, of all three, products of each VALUE added");
        CountLearner x = new CountLearner();
        for (int t = 0; t < 3; t++) {
            x.rows(t, MILLION);
            x.sight(t, 63, 64, MILLION, false);
            for (int value = 0; value < 64; value++) {
                x.truth(t, value, 100000);
            }
        }
        for (int order = 0; order < 6; order++) {
            Due.is("the most by guesses", x.cost(order, false), 1000001000000000000L);
            Due.is("the most by the truth", x.cost(order, true), 64000640000000000L);
        }
        x.rows(2, 0);
        Due.is("a third without rows", x.cost(0, false), 1000000000000L);
        Due.is("a second without rows", x.cost(1, false), 0);
        Due.is("a first without rows", x.cost(4, false), 0);
    }

    private static void ofSeveralTheLeast() {
        Due.about("PLAN: the ORDER of least cost, of several the least");
        int[][] due = {
            {1, 1, 1, 0}, {2, 3, 5, 0}, {2, 5, 3, 1}, {5, 2, 3, 3}, {0, 0, 0, 0}, {2, 3, 3, 0}, {3, 3, 2, 1},
            {3, 2, 3, 0}, {0, 1, 2, 0}, {2, 1, 0, 1}, {0, 1, 0, 0}, {1, 0, 1, 0}, {1, 1, 0, 1}};
        for (int[] d : due) {
            CountLearner x = new CountLearner();
            for (int t = 0; t < 3; t++) {
                x.truth(t, 0, d[t]);
                x.rows(t, d[t]);
                x.sight(t, 63, 64, d[t], false);
            }
            String of = d[0] + ", " + d[1] + ", " + d[2];
            Due.is("by the truth of " + of, x.plan(true), d[3]);
            Due.is("by guesses of " + of, x.plan(false), d[3]);
        }
    }

    private static void truthAtFirst() {
        Due.about("THE TRUTH: rows of each VALUE, 0 to 100,000; 0 at first");
        CountLearner x = new CountLearner();
        Due.is("none in all", x.agrees(0), 1);
        for (int value = 0; value < 64; value++) {
            x.truth(1, value, 1);
            x.truth(2, value, 1);
        }
        Due.is("none at any value", x.cost(0, true), 0);
        Due.is("one at each", x.cost(3, true), 64);
        for (int many : Edges.around(0, 100000)) {
            CountLearner y = new CountLearner();
            y.truth(1, 5, 1);
            y.truth(0, 5, 9);
            boolean right = many >= 0 && many <= 100000;
            Due.is("truth(0, 5, " + many + ")", y.truth(0, 5, many), right);
            Due.is("it is there", y.cost(0, true), right ? many : 9);
        }
    }

    private static void lostAtItsBounds() {
        Due.about("LOST: the cost by THE TRUTH of the PLAN by GUESSES less that of the best one");
        CountLearner x = new CountLearner();
        Due.is("nothing at first", x.lost(), 0);
        for (int value = 0; value < 64; value++) {
            x.truth(0, value, 100000);
            x.truth(1, value, 100000);
        }
        Due.is("the most: all of a join that no one needs", x.lost(), 640000000000L);
        x.truth(2, 63, 1);
        Due.is("one row less of it", x.lost(), 640000000000L - 100000);
        x.rows(0, 5);
        x.rows(1, 5);
        Due.is("nothing when the plans are one", x.lost(), 0);
        x.rows(2, 64);
        x.sight(0, 0, 1, 5, false);
        x.sight(1, 63, 64, 5, false);
        Due.is("the most but one again", x.lost(), 640000000000L - 100000);
    }
}
