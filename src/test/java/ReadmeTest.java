import java.io.File;
import java.io.IOException;
import java.lang.reflect.Method;
import java.lang.reflect.Modifier;
import java.net.URL;
import java.net.URLClassLoader;
import java.nio.file.Files;
import java.nio.file.Path;
import java.util.ArrayList;
import java.util.List;
import java.util.TreeSet;
import java.util.regex.Matcher;
import java.util.regex.Pattern;
import javax.tools.ToolProvider;

/** README.md: its Java answers what its comments say, and it names every call and every test there is. */
public final class ReadmeTest {
    /** A statement with a comment that begins with its answer: a number, or what it throws. */
    private static final Pattern ANSWERED =
            Pattern.compile("(?:int (\\w+) = )?(yard\\.\\w+\\(.*\\)); +// (-?\\d+|throws \\w+):.*");
    private static final Pattern NAMED_TEST = Pattern.compile("`(\\w+Test)`");
    private static final Pattern NAMED_RANGE = Pattern.compile("`Edges(\\d+)Test` to `Edges(\\d+)Test`");

    private static final List<String> statements = new ArrayList<>();
    private static final List<String> due = new ArrayList<>();

    public static void main(String[] args) throws Exception {
        List<String> readme = Files.readAllLines(Path.of("README.md"));
        example(readme);
        everyCall(readme);
        everyTest(String.join("\n", readme));
        Due.end();
    }

    private static void example(List<String> readme) throws Exception {
        List<?> answers = answersOf(programOf(blockOf(readme)));
        Due.is("README has answers to look at", true, () -> due.size() > 10);
        Due.is("answers of README's Java", due.size(), answers::size);
        for (int i = 0; i < Math.min(due.size(), answers.size()); i++) {
            Due.same("README: " + statements.get(i), String.valueOf(answers.get(i)), due.get(i));
        }
    }

    private static List<String> blockOf(List<String> readme) {
        int from = readme.indexOf("```java") + 1;
        int length = readme.subList(from, readme.size()).indexOf("```");
        return readme.subList(from, from + length);
    }

    private static String programOf(List<String> block) {
        StringBuilder text = new StringBuilder();
        text.append("public final class ReadmeExample {\n");
        text.append("public static java.util.List<Object> answers() {\n");
        text.append("java.util.List<Object> answers = new java.util.ArrayList<>();\n");
        for (String line : block) {
            text.append(lineOf(line)).append('\n');
        }
        return text.append("return answers;\n}\n}\n").toString();
    }

    private static String lineOf(String line) {
        Matcher answered = ANSWERED.matcher(line);
        if (!answered.matches()) {
            return line;
        }
        String variable = answered.group(1);
        String call = answered.group(2);
        statements.add(call);
        due.add(answered.group(3));
        if (variable != null) {
            return "int " + variable + " = " + call + "; answers.add(" + variable + ");";
        }
        return "try { answers.add(" + call + "); } catch (RuntimeException e) { "
                + "answers.add(\"throws \" + e.getClass().getSimpleName()); }";
    }

    private static List<?> answersOf(String program) throws Exception {
        Path place = Files.createTempDirectory("readme");
        try {
            Path source = Files.writeString(place.resolve("ReadmeExample.java"), program);
            String classes = System.getProperty("java.class.path");
            int failed = ToolProvider.getSystemJavaCompiler()
                    .run(null, null, null, "-cp", classes, "-d", place.toString(), source.toString());
            Due.is("README's Java compiles", 0, () -> failed);
            return failed == 0 ? runIn(place) : List.of();
        } finally {
            removeAll(place);
        }
    }

    private static List<?> runIn(Path place) throws Exception {
        try (URLClassLoader loader = new URLClassLoader(new URL[] {place.toUri().toURL()})) {
            return (List<?>) loader.loadClass("ReadmeExample").getMethod("answers").invoke(null);
        }
    }

    private static void removeAll(Path place) throws IOException {
        for (File file : place.toFile().listFiles()) {
            Files.delete(file.toPath());
        }
        Files.delete(place);
    }

    private static void everyCall(List<String> readme) {
        for (Method method : GateSteps.class.getDeclaredMethods()) {
            if (Modifier.isPublic(method.getModifiers())) {
                Pattern row = Pattern.compile("\\| `" + method.getName() + "\\(" + parameters(method) + "\\)` \\|.*");
                Due.is("README has a row of " + method.getName(), 1L,
                        () -> readme.stream().filter(line -> row.matcher(line).matches()).count());
            }
        }
    }

    private static String parameters(Method method) {
        StringBuilder names = new StringBuilder();
        for (int i = 0; i < method.getParameterCount(); i++) {
            names.append(i > 0 ? ", " : "").append("\\w+");
        }
        return names.toString();
    }

    private static void everyTest(String readme) {
        TreeSet<String> named = new TreeSet<>();
        NAMED_TEST.matcher(readme).results().forEach(found -> named.add(found.group(1)));
        Matcher range = NAMED_RANGE.matcher(readme);
        while (range.find()) {
            for (int i = Integer.parseInt(range.group(1)); i <= Integer.parseInt(range.group(2)); i++) {
                named.add(String.format("Edges%02dTest", i));
            }
        }
        TreeSet<String> standing = new TreeSet<>();
        for (String file : new File("src/test/java").list()) {
            if (file.endsWith("Test.java")) {
                standing.add(file.substring(0, file.length() - ".java".length()));
            }
        }
        Due.is("the tests that README names", standing, () -> named);
    }
}
