import java.io.IOException;
import java.io.StringWriter;
import java.net.URL;
import java.net.URLClassLoader;
import java.nio.file.Files;
import java.nio.file.Path;
import java.util.ArrayList;
import java.util.Comparator;
import java.util.List;
import java.util.stream.Stream;
import javax.tools.JavaCompiler;
import javax.tools.StandardJavaFileManager;
import javax.tools.ToolProvider;

/** A folder for sources that a test writes and compiles; it is deleted when the test is done with it. */
final class ClassFolder implements AutoCloseable {
    private final Path folder;

    ClassFolder() throws IOException {
        folder = Files.createTempDirectory("leastrows");
    }

    Path write(String name, String text) throws IOException {
        return Files.writeString(folder.resolve(name), text);
    }

    void compile(List<Path> sources) throws IOException {
        JavaCompiler compiler = ToolProvider.getSystemJavaCompiler();
        List<String> options = new ArrayList<>(List.of("-proc:none", "-d", folder.toString()));
        options.addAll(List.of("-cp", System.getProperty("java.class.path")));
        try (StandardJavaFileManager files = compiler.getStandardFileManager(null, null, null)) {
            StringWriter said = new StringWriter();
            boolean isCompiled = compiler.getTask(said, files, null, options, null,
                files.getJavaFileObjectsFromPaths(sources)).call();
            Check.holds("what was written is not compiled: " + said, isCompiled);
        }
    }

    URLClassLoader loader(ClassLoader parent) throws IOException {
        return new URLClassLoader(new URL[] {folder.toUri().toURL()}, parent);
    }

    @Override
    public void close() throws IOException {
        List<Path> all;
        try (Stream<Path> walk = Files.walk(folder)) {
            all = walk.sorted(Comparator.reverseOrder()).toList();
        }
        for (Path path : all) {
            Files.delete(path);
        }
    }
}
