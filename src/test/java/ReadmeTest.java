import java.io.IOException;
import java.lang.reflect.Method;
import java.lang.reflect.Modifier;
import java.net.URL;
import java.net.URLClassLoader;
import java.nio.file.Files;
import java.nio.file.Path;
import java.util.ArrayList;
import java.util.Arrays;
import java.util.List;
import java.util.TreeSet;
import java.util.regex.Matcher;
import java.util.regex.Pattern;

/**
 * README.md's blocks of Java, compiled as they stand there and run: each line's answer must be the one that the page
 * names behind it. It is run from the project's directory.
 */
public final class ReadmeTest {
    private static final Due due = new Due("ReadmeTest");
    private static final Path PAGE = Path.of("README.md");
    private static final String MAKING = "WordMedium medium = new WordMedium();";
    private static final Pattern LINE = Pattern.compile(
            "(?<statement>[^/]*;)(?: +// (?<answer>NONE|-?\\d+|true|false|throws \\w+)(?:: .+)?)?");
    private static final Pattern CALL = Pattern.compile(
            "(?:(?:int|boolean) (?<kept>\\w+) = )?(?<call>medium\\.(?<name>\\w+)\\(.*\\));");
    private static final Pattern ANSWERED_WHILE_OFF =
            Pattern.compile("While power is off, these alone are answered: (.*?)\\. The others", Pattern.DOTALL);

    /** A block's program, and the lines of it that answer, with the answers that the page names. */
    private static final class Block {
        final StringBuilder program = new StringBuilder();
        final List<String> lines = new ArrayList<>();
        final List<String> answers = new ArrayList<>();

        void put(String statement) {
            program.append(statement).append("\n");
        }

        void putAnswer(String expression) {
            put("answers.add(\"\" + " + expression + ");");
        }

        void putThrown(String statement) {
            put("try { " + statement + " answers.add(\"throws nothing\"); }");
            put("catch (RuntimeException e) { answers.add(\"throws \" + e.getClass().getSimpleName()); }");
        }
    }

    public static void main(String[] args) throws Exception {
        String page = Files.readString(PAGE);
        TreeSet<String> shown = new TreeSet<>();
        List<Block> blocks = blocks(page, shown);
        Path place = Files.createTempDirectory("readme");
        try {
            compile(blocks, place);
            run(blocks, place);
        } finally {
            remove(place);
        }
        due.is("calls of the face that the page shows", faceCalls(false).toString(), shown.toString());
        due.is("calls answered while power is off", faceCalls(true).toString(), answeredWhileOff(page).toString());
        due.end();
    }

    private static List<Block> blocks(String page, TreeSet<String> shown) {
        List<Block> blocks = new ArrayList<>();
        Block open = null;
        for (String line : page.split("\n")) {
            if (open == null) {
                open = line.equals("```java") ? new Block() : null;
            } else if (line.equals("```")) {
                blocks.add(open);
                open = null;
            } else if (!line.isBlank()) {
                take(line, open, shown);
            }
        }
        due.is("a block of the page without an end", false, open != null);
        return blocks;
    }

    private static void take(String line, Block block, TreeSet<String> shown) {
        Matcher parts = LINE.matcher(line);
        Matcher call = CALL.matcher(parts.matches() ? parts.group("statement") : "");
        if (line.equals(MAKING)) {
            block.put(line);
        } else if (call.matches()) {
            shown.add(call.group("name"));
            takeCall(line, call, parts.group("answer"), block);
        } else {
            due.is("README.md's line", "a call, and behind // its answer", line);
        }
    }

    private static void takeCall(String line, Matcher call, String answer, Block block) {
        if (answer == null) {
            due.is("README.md names the answer of " + line, false, answers(call.group("name")));
            block.put(call.group());
            return;
        }
        block.lines.add(line);
        block.answers.add(answer.replace("NONE", "" + WordMedium.NONE));
        if (answer.startsWith("throws")) {
            block.putThrown(call.group());
        } else if (call.group("kept") == null) {
            block.putAnswer(call.group("call"));
        } else {
            block.put(call.group());
            block.putAnswer(call.group("kept"));
        }
    }

    /** Whether the call of this name has an answer: no two calls of the face share a name. */
    private static boolean answers(String name) {
        for (Method method : WordMedium.class.getDeclaredMethods()) {
            if (method.getName().equals(name)) {
                return method.getReturnType() != void.class;
            }
        }
        return false;
    }

    private static void compile(List<Block> blocks, Path place) throws IOException, InterruptedException {
        List<String> command = new ArrayList<>();
        command.addAll(List.of("javac", "-cp", System.getProperty("java.class.path"), "-d", place.toString()));
        for (int k = 0; k < blocks.size(); k++) {
            Path file = place.resolve("Block" + k + ".java");
            Files.writeString(file, source("Block" + k, blocks.get(k)));
            command.add(file.toString());
        }
        due.is("javac on README.md's blocks", 0, new ProcessBuilder(command).inheritIO().start().waitFor());
    }

    private static String source(String name, Block block) {
        return "public final class " + name + " {\npublic static java.util.List<String> answers() {\n"
                + "java.util.List<String> answers = new java.util.ArrayList<>();\n"
                + block.program + "return answers;\n}\n}\n";
    }

    private static void run(List<Block> blocks, Path place) throws Exception {
        try (URLClassLoader loader = new URLClassLoader(new URL[] {place.toUri().toURL()})) {
            for (int k = 0; k < blocks.size(); k++) {
                List<?> answers = (List<?>) loader.loadClass("Block" + k).getMethod("answers").invoke(null);
                compare(blocks.get(k), answers);
            }
        }
    }

    private static void compare(Block block, List<?> answers) {
        due.is("how many answers of " + block.lines, block.answers.size(), answers.size());
        for (int k = 0; k < Math.min(block.answers.size(), answers.size()); k++) {
            due.is("README.md's " + block.lines.get(k), block.answers.get(k), answers.get(k).toString());
        }
    }

    /** The names of the face's calls: all, or those that need no power. */
    private static TreeSet<String> faceCalls(boolean whileOff) {
        TreeSet<String> names = new TreeSet<>();
        for (Method method : WordMedium.class.getDeclaredMethods()) {
            boolean needsPower = Arrays.asList(method.getExceptionTypes()).contains(IllegalStateException.class);
            if (Modifier.isPublic(method.getModifiers()) && !(whileOff && needsPower)) {
                names.add(method.getName());
            }
        }
        return names;
    }

    private static TreeSet<String> answeredWhileOff(String page) {
        TreeSet<String> names = new TreeSet<>();
        Matcher sentence = ANSWERED_WHILE_OFF.matcher(page);
        if (sentence.find()) {
            for (String name : sentence.group(1).split(",|\\band\\b")) {
                names.add(name.replace("`", "").trim());
            }
        }
        return names;
    }

    private static void remove(Path place) throws IOException {
        try (var files = Files.list(place)) {
            for (Path file : files.toList()) {
                Files.delete(file);
            }
        }
        Files.delete(place);
    }
}
