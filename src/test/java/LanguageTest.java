import java.io.IOException;
import java.lang.reflect.Field;
import java.lang.reflect.Modifier;
import java.nio.file.Files;
import java.nio.file.Path;
import java.util.ArrayList;
import java.util.Arrays;
import java.util.HashMap;
import java.util.HashSet;
import java.util.List;
import java.util.Map;
import java.util.Set;
import java.util.regex.Matcher;
import java.util.regex.Pattern;

/** The rules of ../shared/LANGUAGE.md, as far as the class's text and its members tell them. */
final class LanguageTest {
    private static final Path SOURCE = Path.of("src", "main", "java", "CountLearner.java");
    private static final String[] NO_WORDS = {
        "package", "throw", "throws", "try", "catch", "finally", "synchronized", "assert", "protected", "native",
        "volatile", "transient", "strictfp", "var", "while", "do", "instanceof", "equals", "hashCode", "toString"};
    private static final Set<String> NAMES = Set.of("CountLearner", "Table", "Arrays", "System", "Math");
    private static final Set<String> LIBRARY = Set.of(
        "Arrays.fill", "System.arraycopy", "Math.min", "Math.max");
    private static final Pattern METHOD = Pattern.compile(
        "^( +)(?:public |private |static |final )*(?:[\\w\\[\\]]+ )?(\\w+)\\(([^()]*)\\) \\{$");
    private static final int MOST_LINES = 60;
    private static final int MOST_PARAMETERS = 7;
    private static final int MOST_DEEP = 8;
    private static final int MOST_FIELDS = 20;
    private static final int MOST_CLASSES = 12;

    private final String text;
    private final Map<String, String> bodies = new HashMap<>();

    private LanguageTest(String text) {
        this.text = text;
    }

    public static void main(String[] args) throws IOException {
        LanguageTest test = new LanguageTest(withoutComments(Files.readString(SOURCE)));
        test.readMethods();
        test.words();
        test.library();
        test.objects();
        test.depth();
        members(CountLearner.class);
        Due.end();
    }

    private static String withoutComments(String source) {
        return source.replaceAll("(?s)/\\*.*?\\*/", "").replaceAll("//[^\n]*", "");
    }

    private static List<String> found(String regex, String text) {
        List<String> all = new ArrayList<>();
        Matcher matcher = Pattern.compile(regex).matcher(text);
        while (matcher.find()) {
            all.add(matcher.group());
        }
        return all;
    }

    /** Rule 11, by the way: how long each method is and what it takes. */
    private void readMethods() {
        String[] lines = text.split("\n");
        for (int i = 0; i < lines.length; i++) {
            Matcher head = METHOD.matcher(lines[i]);
            if (!head.matches()) {
                continue;
            }
            int end = i;
            while (end + 1 < lines.length && !lines[end].equals(head.group(1) + "}")) {
                end++;
            }
            String name = head.group(2);
            Due.is("11: one method of the name " + name, bodies.containsKey(name), false);
            bodies.put(name, String.join("\n", Arrays.copyOfRange(lines, i + 1, end)));
            Due.is("11: lines of " + name + ", " + (end - i + 1), end - i + 1 <= MOST_LINES, true);
            int parameters = head.group(3).isEmpty() ? 0 : head.group(3).split(",").length;
            Due.is("11: parameters of " + name, parameters <= MOST_PARAMETERS, true);
        }
        Due.is("the methods are found", bodies.keySet().containsAll(
            Set.of("CountLearner", "rows", "sight", "table", "costOf", "settle", "climb", "lower")), true);
    }

    private void words() {
        for (String word : NO_WORDS) {
            Due.is("6, 9: " + word, found("\\b" + word + "\\b", text).size(), 0);
        }
        for (String sign : new String[] {"->", "::", "\"", "@"}) {
            Due.is("2, 4: " + sign, text.contains(sign), false);
        }
        Due.is("2: a class without a name", found("\\bnew \\w+\\([^)]*\\)\\s*\\{", text).size(), 0);
    }

    private void library() {
        for (String line : found("(?m)^import [^;]*;", text)) {
            Due.is("4: " + line, line.equals("import java.util.Arrays;"), true);
        }
        for (String name : found("\\b[A-Z]\\w*[a-z]\\w*\\b", text)) {
            Due.is("3, 4: " + name, NAMES.contains(name), true);
        }
        String code = text.replaceAll("(?m)^import [^;]*;", "");
        for (String call : found("\\b(?:Arrays|System|Math)\\s*\\.\\s*\\w+", code)) {
            Due.is("4: " + call, LIBRARY.contains(call), true);
        }
    }

    /** Rule 12, and one room for all calls: objects are made with the learner, none by a call. */
    private void objects() {
        for (Map.Entry<String, String> method : bodies.entrySet()) {
            boolean makes = !found("\\bnew\\b|\\.clone\\(|copyOf", method.getValue()).isEmpty();
            Due.is("12: " + method.getKey() + " makes an object", makes, method.getKey().equals("CountLearner"));
        }
    }

    private void depth() {
        for (String name : bodies.keySet()) {
            int deep = deepest(name, new HashSet<>());
            Due.is("8, 11: calls from " + name + ", " + deep, deep <= MOST_DEEP, true);
        }
    }

    /** How many calls stand open at once from a method on; far too many if it comes back to itself. */
    private int deepest(String name, Set<String> open) {
        if (!open.add(name)) {
            return 1000;
        }
        int deep = 0;
        for (String call : found("\\b\\w+(?=\\()", bodies.get(name))) {
            if (bodies.containsKey(call)) {
                deep = Math.max(deep, deepest(call, open));
            }
        }
        open.remove(name);
        return deep + 1;
    }

    private static void members(Class<?> face) {
        Class<?>[] inside = face.getDeclaredClasses();
        Due.is("11: classes", inside.length < MOST_CLASSES, true);
        fields(face);
        for (Class<?> one : inside) {
            int how = one.getModifiers();
            Due.is("1: " + one + " is static", Modifier.isStatic(how), true);
            Due.is("1: " + one + " is seen", Modifier.isPublic(how) || Modifier.isProtected(how), false);
            fields(one);
        }
    }

    private static void fields(Class<?> of) {
        int own = 0;
        for (Field field : of.getDeclaredFields()) {
            boolean isStatic = Modifier.isStatic(field.getModifiers());
            own += isStatic ? 0 : 1;
            Due.is("5: " + field + " is final", !isStatic || Modifier.isFinal(field.getModifiers()), true);
            boolean plain = field.getType() == int.class || field.getType() == int[].class;
            Due.is("5: " + field + " is plain", !isStatic || plain, true);
        }
        Due.is("11: fields of " + of, own <= MOST_FIELDS, true);
    }
}
