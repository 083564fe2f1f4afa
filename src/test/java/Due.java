/** Counts answers that are not the ones that are due, and ends a test by that count. */
final class Due {
    private static int wrong = 0;
    private static int asked = 0;
    private static int sentences = 0;
    private static String sentence = "";

    private Due() {
    }

    /** From here on the answers are asked for one sentence of the document. */
    static void about(String words) {
        sentences++;
        sentence = words + ": ";
    }

    static void is(String what, long got, long want) {
        asked++;
        if (got != want) {
            wrong++;
            // One cause can spoil every later answer of a long run: the first ones tell it.
            if (wrong <= 20) {
                System.out.println(sentence + what + " answered " + got + ", due is " + want);
            }
        }
    }

    static void is(String what, boolean got, boolean want) {
        is(what, got ? 1 : 0, want ? 1 : 0);
    }

    static void end() {
        String of = sentences == 0 ? "" : " on sentences: " + sentences;
        System.out.println(asked + " answers" + of + ", " + wrong + " not as due");
        if (wrong != 0) {
            System.exit(1);
        }
    }
}
