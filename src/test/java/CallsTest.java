import java.io.IOException;
import java.lang.reflect.Field;
import java.net.URLClassLoader;
import java.nio.file.Files;
import java.nio.file.Path;
import java.util.ArrayList;
import java.util.List;
import java.util.stream.Stream;

/**
 * The document leaves free what an object answers behind its 512th call, so no test may ask for it: the
 * tests are run once more with a copy of the class that counts its calls.
 */
public final class CallsTest {
    private static final Path FILE = Path.of("src/main/java/LeastRows.java");
    private static final Path TESTS = Path.of("src/test/java");
    private static final int MOST_CALLS = 512;
    // FaceTest and LanguageTest ask an object for no answers, ReadmeTest has few calls; RoomTest would
    // take what the counting makes for what the calls make.
    private static final String[] COUNTED = {"PromisesTest", "EdgesTest", "ModelTest"};

    private static final String FACE = "(?m)^    public (int|long|double) (\\w+)\\([^)]*\\)[^{;]*\\{$";
    private static final String CONSTANT = "    public static final int NONE = -1;\n";
    private static final String COUNTER = CONSTANT
        + "    static int mostCalls = 0;\n"
        + "    static String asked = \"\";\n"
        + "    private int calls = 0;\n"
        + "    private void countCall() {\n"
        + "        StackTraceElement by = StackWalker.getInstance().walk(s -> s.skip(2).findFirst()).get()\n"
        + "            .toStackTraceElement();\n"
        + "        calls += by.getClassName().equals(\"LeastRows\") ? 0 : 1;\n"
        + "        if (calls > mostCalls) {\n"
        + "            mostCalls = calls;\n"
        + "            asked = by.toString();\n"
        + "        }\n"
        + "    }\n";

    public static void main(String[] args) throws Exception {
        try (ClassFolder folder = new ClassFolder()) {
            List<Path> sources = new ArrayList<>();
            sources.add(folder.write("LeastRows.java", counting(Files.readString(FILE))));
            addTests(sources);
            folder.compile(sources);
            for (String name : COUNTED) {
                countCalls(folder, name);
            }
        }
        Check.end();
    }

    private static String counting(String text) {
        Check.holds("the class has no line for the constant", text.contains(CONSTANT));
        String counted = text.replaceAll(FACE, "$0\n        countCall();");
        Check.equal("calls of the face that are counted", counted.split("countCall\\(\\);", -1).length - 1, 26);
        return counted.replace(CONSTANT, COUNTER);
    }

    private static void addTests(List<Path> sources) throws IOException {
        try (Stream<Path> tests = Files.list(TESTS)) {
            tests.filter(test -> !test.endsWith("CallsTest.java")).forEach(sources::add);
        }
    }

    private static void countCalls(ClassFolder folder, String name) throws Exception {
        try (URLClassLoader loader = folder.loader(ClassLoader.getPlatformClassLoader())) {
            loader.loadClass(name).getMethod("main", String[].class).invoke(null, (Object) new String[0]);
            Class<?> counted = loader.loadClass("LeastRows");
            int most = told(counted, "mostCalls").getInt(null);
            Check.holds(name + " counts no calls", most > 0);
            Check.holds(name + " makes " + most + " calls of one object, the last of them at "
                + told(counted, "asked").get(null), most <= MOST_CALLS);
        }
    }

    private static Field told(Class<?> counted, String name) throws NoSuchFieldException {
        Field field = counted.getDeclaredField(name);
        field.setAccessible(true);
        return field;
    }
}
