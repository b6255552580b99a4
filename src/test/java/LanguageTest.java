import java.io.IOException;
import java.lang.reflect.Field;
import java.lang.reflect.Method;
import java.lang.reflect.Modifier;
import java.nio.file.Files;
import java.nio.file.Path;
import java.util.Set;
import java.util.regex.MatchResult;
import java.util.regex.Matcher;
import java.util.regex.Pattern;

/**
 * LANGUAGE.md's rules, as far as they can be seen from the program's text or from its class file. It is run from the
 * project's directory. FaceTest holds rule 1.
 */
public final class LanguageTest {
    private static final Due due = new Due("LanguageTest");
    private static final Path PROGRAM = Path.of("src/main/java/WordMedium.java");
    private static final Pattern COMMENT_OR_TEXT =
            Pattern.compile("/\\*.*?\\*/|//[^\\n]*|\"(?:[^\"\\\\\\n]|\\\\.)*\"|'(?:[^'\\\\\\n]|\\\\.)+'", Pattern.DOTALL);
    private static final Set<String> LIBRARY = Set.of("java.util.ArrayList", "java.util.Arrays", "java.util.Iterator",
            "java.util.List", "java.util.NoSuchElementException");
    private static final Set<String> THROWN = Set.of("IllegalStateException", "IllegalArgumentException",
            "IndexOutOfBoundsException", "ArithmeticException", "UnsupportedOperationException",
            "NoSuchElementException", "RuntimeException");
    private static final Set<String> CONSTANT_TYPES = Set.of("int", "long", "boolean", "char", "String", "int[]",
            "long[]", "char[]", "byte[]");
    private static final int MOST_CLASSES = 12;
    private static final int MOST_FIELDS = 20;
    private static final int MOST_PARAMETERS = 7;
    private static final int MOST_LINES = 60;

    public static void main(String[] args) throws IOException {
        String text = Files.readString(PROGRAM);
        String code = COMMENT_OR_TEXT.matcher(text).replaceAll(LanguageTest::emptied);
        due.is("signs beyond 127", "", text.replaceAll("[\\x01-\\x7f]", ""));
        importsAreOfTheLibrary(code);
        staticCallsAreOfTheLibrary(code);
        refusedWordsAreNotThere(code);
        exceptionsAreThoseOfTheRules(code);
        methodsAreShort(text);
        classesAreSmall(WordMedium.class);
        due.end();
    }

    private static String emptied(MatchResult found) {
        return found.group().startsWith("/") ? " " : "\"\"";
    }

    private static void importsAreOfTheLibrary(String code) {
        Matcher found = Pattern.compile("\\bimport\\s+([^;]+);").matcher(code);
        while (found.find()) {
            due.is("rule 4: import " + found.group(1), true, LIBRARY.contains(found.group(1)));
        }
        due.is("rule 4: names of packages beside imports", false,
                matches("\\b(java|javax|jdk|sun)\\.", code.replaceAll("\\bimport\\s+[^;]+;", "")));
    }

    private static void staticCallsAreOfTheLibrary(String code) {
        due.is("rule 4: of System arraycopy alone", false, matches("\\bSystem\\s*\\.\\s*(?!arraycopy\\b)", code));
        due.is("rule 4: of Arrays copyOf, copyOfRange, fill alone", false,
                matches("\\bArrays\\s*\\.\\s*(?!(copyOf|copyOfRange|fill)\\b)", code));
        due.is("rule 4: no name that ends in Exact", false, matches("\\b\\w+Exact\\b", code));
        due.is("rule 13: no clock, thread or environment", false, matches("\\b(Thread|Runtime|Random)\\b", code));
    }

    private static void refusedWordsAreNotThere(String code) {
        for (String word : new String[] {"package", "synchronized", "assert", "finally", "volatile", "native", "var"}) {
            due.is("the word " + word, false, matches("\\b" + word + "\\b", code));
        }
        due.is("rule 2: a lambda or a method reference", false, matches("(?m)^(?!\\s*(case|default)\\b).*->|::", code));
        due.is("rule 5: a static initialiser block", false, matches("\\bstatic\\s*\\{", code));
        due.is("rule 6: try with resources", false, matches("\\btry\\s*\\(", code));
        due.is("rule 10: texts joined by +", false, matches("\"\\s*\\+|\\+\\s*\"", code));
    }

    /** What the machine throws is caught nowhere; of what code throws, the rules' classes alone are. */
    private static void exceptionsAreThoseOfTheRules(String code) {
        Matcher thrown = Pattern.compile("\\bthrow\\b\\s*(new\\s+(\\w+))?").matcher(code);
        while (thrown.find()) {
            due.is("rule 6: " + thrown.group(), true, thrown.group(2) != null && THROWN.contains(thrown.group(2)));
        }
        Matcher caught = Pattern.compile("\\bcatch\\s*\\(\\s*(?:final\\s+)?([\\w |.]+?)\\s+\\w+\\s*\\)").matcher(code);
        while (caught.find()) {
            for (String name : caught.group(1).split("\\|")) {
                due.is("rule 6: catch " + name, true, THROWN.contains(name.trim()));
            }
        }
    }

    private static void methodsAreShort(String text) {
        int start = -1;
        String[] lines = text.split("\n");
        for (int k = 0; k < lines.length; k++) {
            if (lines[k].matches(" {4}[a-z].*\\).*\\{")) {
                start = k;
            } else if (lines[k].equals("    }") && start >= 0) {
                due.is("rule 11: lines of" + lines[start], true, k - start + 1 <= MOST_LINES);
                start = -1;
            }
        }
    }

    private static void classesAreSmall(Class<?> outer) {
        due.is("rule 11: classes", true, outer.getDeclaredClasses().length + 1 <= MOST_CLASSES);
        isSmall(outer);
        for (Class<?> inner : outer.getDeclaredClasses()) {
            isSmall(inner);
        }
    }

    private static void isSmall(Class<?> type) {
        int fields = 0;
        for (Field field : type.getDeclaredFields()) {
            if (!Modifier.isStatic(field.getModifiers())) {
                fields++;
            } else if (!type.isEnum()) {
                String name = type.getSimpleName() + "." + field.getName();
                due.is("rule 5: " + name + " is final", true, Modifier.isFinal(field.getModifiers()));
                due.is("rule 5: the type of " + name, true, CONSTANT_TYPES.contains(field.getType().getSimpleName()));
            }
        }
        due.is("rule 11: fields of " + type.getSimpleName(), true, fields <= MOST_FIELDS);
        for (Method method : type.getDeclaredMethods()) {
            due.is("rule 11: parameters of " + method.getName(), true, method.getParameterCount() <= MOST_PARAMETERS);
        }
    }

    private static boolean matches(String pattern, String code) {
        return Pattern.compile(pattern).matcher(code).find();
    }
}
