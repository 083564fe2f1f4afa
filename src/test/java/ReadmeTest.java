import java.io.IOException;
import java.nio.file.Files;
import java.nio.file.Path;

/** What README.md says of the class is so: its example answers as it says, and it names every call and every test. */
final class ReadmeTest {
    private static final String[] CALLS = {
        "CountLearner()", "rows(table, many)", "put(table, many)", "strike(table, many)",
        "sight(table, a, b, count, atLeast)", "begins(table, n, v, count)", "room(table, many)",
        "sightOf(table, sight, what)", "least(table, a, b)", "greatest(table, a, b)", "guess(table, a, b)",
        "join(t, u, a, b)", "truth(table, value, many)", "agrees(table)", "cost(order, truth)", "plan(truth)",
        "lost()", "table(table, what)"};

    private final String readme;
    private int at = 0;

    private ReadmeTest(String readme) {
        this.readme = readme;
    }

    public static void main(String[] args) throws IOException {
        ReadmeTest test = new ReadmeTest(Files.readString(Path.of("README.md")));
        test.example();
        test.calls();
        test.tests();
        Due.end();
    }

    private void example() {
        CountLearner x = new CountLearner();
        line("x.rows(0, 100);", x.rows(0, 100) ? 1 : 0, "true", 1);
        line("x.sight(0, 0, 16, 40, false);", x.sight(0, 0, 16, 40, false), "0", 0);
        line("x.sight(0, 8, 24, 50, true);", x.sight(0, 8, 24, 50, true), "1", 1);
        line("x.least(0, 16, 24);", x.least(0, 16, 24), "10", 10);
        line("x.greatest(0, 0, 24);", x.greatest(0, 0, 24), "100", 100);
        line("x.guess(0, 0, 8);", x.guess(0, 0, 8), "8", 8);
        line("x.guess(0, 0, 16);", x.guess(0, 0, 16), "40", 40);
        line("x.sight(0, 8, 24, 20, false);", x.sight(0, 8, 24, 20, false), "2", 2);
        line("x.sightOf(0, 1, 4);", x.sightOf(0, 1, 4), "1", 1);
        line("x.put(0, 10);", x.put(0, 10), "110", 110);
        line("x.greatest(0, 0, 16);", x.greatest(0, 0, 16), "50", 50);
        line("x.least(0, 6, 5);", x.least(0, 6, 5), "-1", -1);
        line("x.rows(1, 20);", x.rows(1, 20) ? 1 : 0, "true", 1);
        line("x.begins(1, 1, 2, 5);", x.begins(1, 1, 2, 5), "0", 0);
        line("x.join(0, 1, 32, 48);", x.join(0, 1, 32, 48), "10", 10);
        line("x.plan(false);", x.plan(false), "1", 1);
    }

    /** The line stands in the example, after the one before, with that answer first in its comment. */
    private void line(String call, long got, String written, long want) {
        int start = readme.indexOf("\n" + call + " ", at);
        Due.is("the example has, in its place, " + call, start >= 0, true);
        if (start >= 0) {
            at = start + 1;
            int end = readme.indexOf('\n', at);
            String comment = readme.substring(at, end < 0 ? readme.length() : end).replaceAll("^.*// ", "");
            Due.is("the answer in the comment of " + call, comment.split("[:;, ]")[0].equals(written), true);
        }
        Due.is("the answer of " + call, got, want);
    }

    private void calls() {
        for (String call : CALLS) {
            Due.is("README.md tells " + call, readme.contains("`" + call + "`"), true);
        }
    }

    private void tests() throws IOException {
        try (var files = Files.newDirectoryStream(Path.of("src", "test", "java"), "*Test.java")) {
            for (Path file : files) {
                String name = file.getFileName().toString().replace(".java", "");
                Due.is("README.md tells " + name, readme.contains("`" + name + "`"), true);
            }
        }
        Due.is("README.md tells how to run them", readme.contains("`.ci/run`"), true);
    }
}
