import java.lang.reflect.Constructor;
import java.lang.reflect.Field;
import java.lang.reflect.Method;
import java.lang.reflect.Modifier;
import java.util.ArrayList;
import java.util.Arrays;
import java.util.List;
import java.util.TreeSet;

/** The face: what the document's public face shows, and nothing else but private members. */
public final class FaceTest {
    private static final Due due = new Due("FaceTest");
    private static final String OFF = "IllegalStateException";
    private static final String INDEX = "IndexOutOfBoundsException";
    private static final String ARGUMENT = "IllegalArgumentException";
    private static final String[] FACE = {
        "void set(int, int) " + OFF + " " + INDEX,
        "void fill(int, int) " + OFF,
        "int get(int) " + INDEX,
        "int sum()",
        "int write(int, int) " + OFF + " " + INDEX,
        "int read(int, int) " + OFF + " " + INDEX,
        "int copy(int, int) " + OFF + " " + INDEX,
        "int append(int) " + OFF + " " + ARGUMENT,
        "int force(int) " + OFF + " " + ARGUMENT,
        "void readLog(int, int) " + OFF + " " + ARGUMENT,
        "void giveBack(int) " + OFF + " " + ARGUMENT,
        "int log(int) " + INDEX,
        "boolean setRoot(int, int) " + OFF + " " + INDEX,
        "int root(int) " + INDEX,
        "void lose(int, int) " + INDEX,
        "int stamp(int, int, int) " + INDEX,
        "int count(int, int) " + INDEX,
        "int writes()",
        "void cutAfter(int) " + ARGUMENT,
        "boolean cut()",
        "boolean start()",
        "boolean isOn()"};

    public static void main(String[] args) {
        due.is("modifiers of the class", "public final", Modifier.toString(WordMedium.class.getModifiers()));
        due.is("methods", new TreeSet<>(Arrays.asList(FACE)).toString(), methods().toString());
        due.is("constructors", "[public WordMedium()]", constructors().toString());
        due.is("fields", "[public static final int NONE]", fields().toString());
        noPrivateMethodHasAPublicName();
        due.end();
    }

    private static TreeSet<String> methods() {
        TreeSet<String> found = new TreeSet<>();
        for (Method method : WordMedium.class.getDeclaredMethods()) {
            if (Modifier.isPrivate(method.getModifiers())) {
                continue;
            }
            String plain = method.getModifiers() == Modifier.PUBLIC ? "" : Modifier.toString(method.getModifiers()) + "? ";
            StringBuilder line = new StringBuilder(plain + method.getReturnType().getName() + " " + method.getName());
            line.append(names(method.getParameterTypes(), "(", ", ", ")"));
            line.append(names(method.getExceptionTypes(), method.getExceptionTypes().length == 0 ? "" : " ", " ", ""));
            found.add(line.toString());
        }
        return found;
    }

    private static String names(Class<?>[] types, String before, String between, String after) {
        List<String> names = new ArrayList<>();
        for (Class<?> type : types) {
            names.add(type.getSimpleName());
        }
        return before + String.join(between, names) + after;
    }

    private static List<String> constructors() {
        List<String> found = new ArrayList<>();
        for (Constructor<?> constructor : WordMedium.class.getDeclaredConstructors()) {
            found.add(constructor.toString());
        }
        return found;
    }

    private static List<String> fields() {
        List<String> found = new ArrayList<>();
        for (Field field : WordMedium.class.getDeclaredFields()) {
            if (!Modifier.isPrivate(field.getModifiers())) {
                found.add(Modifier.toString(field.getModifiers()) + " " + field.getType() + " " + field.getName());
            }
        }
        return found;
    }

    private static void noPrivateMethodHasAPublicName() {
        TreeSet<String> names = new TreeSet<>();
        for (Method method : WordMedium.class.getMethods()) {
            names.add(method.getName());
        }
        for (Method method : WordMedium.class.getDeclaredMethods()) {
            if (Modifier.isPrivate(method.getModifiers())) {
                due.is("a public method called " + method.getName(), false, names.contains(method.getName()));
            }
        }
    }
}
