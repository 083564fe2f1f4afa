import java.lang.reflect.Constructor;
import java.lang.reflect.Field;
import java.lang.reflect.Method;
import java.lang.reflect.Modifier;
import java.util.Arrays;
import java.util.Set;
import java.util.TreeSet;

/** The public face is the document's, and nothing else can be seen. */
final class FaceTest {
    private static final Set<String> METHODS = new TreeSet<>(Arrays.asList(
        "boolean rows[int, int]",
        "int put[int, int]",
        "int strike[int, int]",
        "int sight[int, int, int, int, boolean]",
        "int begins[int, int, int, int]",
        "boolean room[int, int]",
        "int sightOf[int, int, int]",
        "int least[int, int, int]",
        "int greatest[int, int, int]",
        "int guess[int, int, int]",
        "long join[int, int, int, int]",
        "boolean truth[int, int, int]",
        "int agrees[int]",
        "long cost[int, boolean]",
        "int plan[boolean]",
        "long lost[]",
        "int table[int, int]"));

    private FaceTest() {
    }

    public static void main(String[] args) {
        Class<?> face = CountLearner.class;
        Due.is("public and final",
            Modifier.isPublic(face.getModifiers()) && Modifier.isFinal(face.getModifiers()), true);
        Due.is("NONE", CountLearner.NONE, -1);
        Due.is("above it", face.getSuperclass() == Object.class, true);
        Due.is("its interfaces", face.getInterfaces().length, 0);
        Due.is("its type parameters", face.getTypeParameters().length, 0);
        Due.is("visible classes inside", face.getClasses().length, 0);
        methods(face);
        fields(face);
        constructors(face);
        Due.end();
    }

    private static void methods(Class<?> face) {
        Set<String> seen = new TreeSet<>();
        Set<String> names = new TreeSet<>();
        for (Method method : face.getDeclaredMethods()) {
            if (!Modifier.isPrivate(method.getModifiers())) {
                seen.add(written(method));
                names.add(method.getName());
                Due.is("just public: " + method, plainlyPublic(method), true);
            }
        }
        Due.is("the methods " + seen, seen.equals(METHODS), true);
        for (Method method : face.getDeclaredMethods()) {
            if (Modifier.isPrivate(method.getModifiers())) {
                Due.is("a private " + method.getName(), names.contains(method.getName()), false);
            }
        }
    }

    private static boolean plainlyPublic(Method method) {
        return method.getModifiers() == Modifier.PUBLIC && method.getExceptionTypes().length == 0;
    }

    private static String written(Method method) {
        StringBuilder types = new StringBuilder();
        for (Class<?> type : method.getParameterTypes()) {
            types.append(types.length() == 0 ? "" : ", ").append(type.getName());
        }
        return method.getReturnType().getName() + " " + method.getName() + "[" + types + "]";
    }

    private static void fields(Class<?> face) {
        for (Field field : face.getDeclaredFields()) {
            boolean hidden = Modifier.isPrivate(field.getModifiers());
            Due.is("field " + field.getName() + " hidden", hidden, !field.getName().equals("NONE"));
            if (!hidden) {
                int constant = Modifier.PUBLIC | Modifier.STATIC | Modifier.FINAL;
                Due.is("a constant: " + field, field.getModifiers(), constant);
                Due.is("an int: " + field, field.getType() == int.class, true);
            }
        }
    }

    private static void constructors(Class<?> face) {
        Constructor<?>[] all = face.getDeclaredConstructors();
        Due.is("constructors", all.length, 1);
        Due.is("its parameters", all[0].getParameterCount(), 0);
        Due.is("it is public", Modifier.isPublic(all[0].getModifiers()), true);
    }
}
