import java.io.IOException;
import java.lang.reflect.Method;
import java.lang.reflect.Modifier;
import java.net.URLClassLoader;
import java.nio.file.Files;
import java.nio.file.Path;
import java.util.ArrayList;
import java.util.List;
import java.util.regex.Matcher;
import java.util.regex.Pattern;
import java.util.stream.Stream;

/** What README.md shows of the class is so: its examples run as one program, and answer what they say. */
public final class ReadmeTest {
    private static final Path README = Path.of("README.md");
    private static final Path TESTS = Path.of("src/test/java");
    // An example: a call, and behind it the answer or the exception that its comment begins with.
    private static final Pattern ANSWERED = Pattern.compile("(x\\.(\\w+)\\(.*\\)); +// (-?[0-9.]+|throws \\w+)(:.*)?");

    public static void main(String[] args) throws Exception {
        String readme = Files.readString(README);
        List<String> lines = examples(readme);
        Check.holds("README.md has no examples", !lines.isEmpty());
        namesEachCall(lines);
        namesEachTest(readme);
        try (ClassFolder folder = new ClassFolder()) {
            folder.compile(List.of(folder.write("Examples.java", program(lines))));
            try (URLClassLoader loader = folder.loader(ReadmeTest.class.getClassLoader())) {
                Object wrong = loader.loadClass("Examples").getMethod("wrong").invoke(null);
                for (Object message : (List<?>) wrong) {
                    Check.fail(message.toString());
                }
            }
        }
        Check.end();
    }

    private static List<String> examples(String readme) {
        List<String> lines = new ArrayList<>();
        boolean isExample = false;
        for (String line : readme.split("\n")) {
            if (line.startsWith("```")) {
                isExample = line.equals("```java");
            } else if (isExample) {
                lines.add(line.strip());
            }
        }
        return lines;
    }

    private static void namesEachCall(List<String> lines) {
        for (Method method : LeastRows.class.getDeclaredMethods()) {
            boolean isShown = lines.stream().map(ANSWERED::matcher)
                .anyMatch(m -> m.matches() && m.group(2).equals(method.getName()));
            Check.holds("README.md shows no answer of " + method.getName(),
                isShown || !Modifier.isPublic(method.getModifiers()) || method.getName().equals("digest"));
        }
    }

    private static void namesEachTest(String readme) throws IOException {
        try (Stream<Path> tests = Files.list(TESTS)) {
            tests.map(test -> test.getFileName().toString().replace(".java", ""))
                .filter(name -> name.endsWith("Test"))
                .forEach(name -> Check.holds("README.md does not tell of " + name,
                    readme.contains("- `" + name + "`: ")));
        }
    }

    private static String program(List<String> lines) {
        StringBuilder program = new StringBuilder("public final class Examples {\n"
            + "public static java.util.List<String> wrong() {\n"
            + "java.util.List<String> wrong = new java.util.ArrayList<>();\n");
        for (String line : lines) {
            Matcher m = ANSWERED.matcher(line);
            program.append(m.matches() ? checked(m.group(1), m.group(3)) : line).append("\n");
        }
        return program.append("return wrong;\n}\n}\n").toString();
    }

    private static String checked(String call, String due) {
        String message = "wrong.add(\"README.md: " + call.replace("\"", "\\\"") + " is not " + due + "\");";
        if (due.startsWith("throws ")) {
            return "try { " + call + "; " + message + " } catch (RuntimeException e) { if (!e.getClass()"
                + ".getSimpleName().equals(\"" + due.substring(7) + "\")) " + message + " }";
        }
        return "if (" + call + " != " + due + ") " + message;
    }
}
