/**
 * All arguments of a call at once, each from its edges: a call is taken only if every one of them is as told, and no
 * call throws. What is refused does nothing, so a learner serves until a call is taken or its calls run out.
 */
final class EveryArgumentTest {
    private static final int[] TABLES = {Edges.MIN, -1, 0, 1, 2, 3, Edges.MAX};
    private static final int[] MARKS = {Edges.MIN, -1, 0, 1, 31, 32, 63, 64, 65, 1 << 26, Edges.MAX};
    private static final int[] LETTERS = {Edges.MIN, -16, -1, 0, 1, 2, 3, 4, 16, Edges.MAX};
    private static final int[] TEXTS = {
        Edges.MIN, -1, 0, 1, 3, 4, 15, 16, 63, 64, 1 << 26, 1 << 28, 1 << 30, Edges.MAX};
    private static final int[] MANY = Edges.around(0, 1, 7, 40, 50, 100, 100000, 1000000);
    private static final int[] COUNTS = {Edges.MIN, -1, 0, 1, 7, 8, 50, 51, 100, 101, 1000000, 1000001, Edges.MAX};
    private static final boolean[] BOTH = {false, true};

    private final Starts start;
    private CountLearner learner;
    private final int[] rows = new int[3];
    private final int[] sights = new int[3];
    private int calls = 0;

    private EveryArgumentTest(Starts start) {
        this.start = start;
        startAnew();
    }

    public static void main(String[] args) {
        for (Starts start : Starts.values()) {
            EveryArgumentTest test = new EveryArgumentTest(start);
            test.ofTableAndMany();
            test.ofTruth();
            test.ofSight();
            test.ofText();
            test.ofSightOf();
            test.ofSpan();
            test.ofJoin();
        }
        Due.end();
    }

    private void startAnew() {
        learner = start.make();
        for (int t = 0; t < 3; t++) {
            rows[t] = learner.table(t, 0);
            sights[t] = learner.table(t, 1);
        }
        calls = 60;
    }

    private static boolean in(int x, int low, int high) {
        return low <= x && x <= high;
    }

    private static boolean isTable(int t) {
        return in(t, 0, 2);
    }

    private void change(String name, long answer, long refusal, boolean taken) {
        Due.is(start + ": " + name + " taken", answer != refusal, taken);
        calls++;
        if (taken || calls > 500) {
            startAnew();
        }
    }

    private void ask(String name, long answer, boolean taken) {
        Due.is(start + ": " + name + " answered", answer != -1, taken);
        Due.is(start + ": " + name + " below NONE", answer < -1, false);
        calls++;
        if (calls > 500) {
            startAnew();
        }
    }

    private void ofTableAndMany() {
        for (int t : TABLES) {
            for (int many : MANY) {
                String args = "(" + t + ", " + many + ")";
                int has = isTable(t) ? rows[t] : 0;
                change("rows" + args, learner.rows(t, many) ? 1 : 0, 0, isTable(t) && in(many, 0, 1000000));
                change("put" + args, learner.put(t, many), -1, isTable(t) && in(many, 1, 1000000 - has));
                change("strike" + args, learner.strike(t, many), -1, isTable(t) && in(many, 1, has));
                change("room" + args, learner.room(t, many) ? 1 : 0, 0, isTable(t) && in(many, 1, 40));
                ask("table" + args, learner.table(t, many), isTable(t) && in(many, 0, 5));
                ask("agrees(" + t + ")", learner.agrees(t), isTable(t));
                ask("cost(" + many + ", true)", learner.cost(many, true), in(many, 0, 5));
                ask("cost(" + many + ", false)", learner.cost(many, false), in(many, 0, 5));
            }
        }
    }

    private void ofTruth() {
        for (int t : TABLES) {
            for (int value : MARKS) {
                for (int many : MANY) {
                    boolean taken = isTable(t) && in(value, 0, 63) && in(many, 0, 100000);
                    String name = "truth(" + t + ", " + value + ", " + many + ")";
                    change(name, learner.truth(t, value, many) ? 1 : 0, 0, taken);
                }
            }
        }
    }

    private void ofSight() {
        for (int t : TABLES) {
            for (int a : MARKS) {
                for (int b : MARKS) {
                    for (int count : COUNTS) {
                        ofSight(t, a, b, count);
                    }
                }
            }
        }
    }

    private void ofSight(int t, int a, int b, int count) {
        boolean span = 0 <= a && a <= b && b <= 64;
        boolean taken = isTable(t) && span && in(count, 0, rows[t]) && sights[t] < 40;
        for (boolean atLeast : BOTH) {
            String name = "sight(" + t + ", " + a + ", " + b + ", " + count + ", " + atLeast + ")";
            change(name, learner.sight(t, a, b, count, atLeast), -1, taken);
        }
    }

    private void ofText() {
        for (int t : TABLES) {
            for (int n : LETTERS) {
                for (int v : TEXTS) {
                    for (int count : COUNTS) {
                        int most = n == 0 ? 0 : n == 1 ? 3 : n == 2 ? 15 : n == 3 ? 63 : -1;
                        boolean taken = isTable(t) && in(v, 0, most) && in(count, 0, rows[t]) && sights[t] < 40;
                        String name = "begins(" + t + ", " + n + ", " + v + ", " + count + ")";
                        change(name, learner.begins(t, n, v, count), -1, taken);
                    }
                }
            }
        }
    }

    private void ofSightOf() {
        for (int t : TABLES) {
            for (int s : MANY) {
                for (int what : LETTERS) {
                    boolean taken = isTable(t) && in(s, 0, sights[t] - 1) && in(what, 0, 4);
                    ask("sightOf(" + t + ", " + s + ", " + what + ")", learner.sightOf(t, s, what), taken);
                }
            }
        }
    }

    private void ofSpan() {
        for (int t : TABLES) {
            for (int a : MARKS) {
                for (int b : MARKS) {
                    boolean taken = isTable(t) && 0 <= a && a <= b && b <= 64;
                    String args = "(" + t + ", " + a + ", " + b + ")";
                    int least = learner.least(t, a, b);
                    int guess = learner.guess(t, a, b);
                    int greatest = learner.greatest(t, a, b);
                    ask("least" + args, least, taken);
                    ask("guess" + args, guess, taken);
                    ask("greatest" + args, greatest, taken);
                    Due.is(start + ": guess between" + args, least <= guess && guess <= greatest, true);
                }
            }
        }
    }

    private void ofJoin() {
        for (int t : TABLES) {
            for (int u : TABLES) {
                for (int a : MARKS) {
                    for (int b : MARKS) {
                        boolean taken = isTable(t) && isTable(u) && 0 <= a && a <= b && b <= 64;
                        String name = "join(" + t + ", " + u + ", " + a + ", " + b + ")";
                        ask(name, learner.join(t, u, a, b), taken);
                    }
                }
            }
        }
    }
}
