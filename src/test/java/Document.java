import java.io.IOException;
import java.nio.file.Files;
import java.nio.file.Path;
import java.util.LinkedHashMap;
import java.util.LinkedHashSet;
import java.util.Map;
import java.util.Set;

/** The sentences of ../shared/DOC.md by their sections, and which of them a test has quoted. */
final class Document {
    private static final String FILE = "../shared/DOC.md";

    private final Map<String, Set<String>> sentences = new LinkedHashMap<>();
    private final Set<String> quoted = new LinkedHashSet<>();

    Document() throws IOException {
        String section = "";
        boolean isCode = false;
        for (String line : Files.readString(Path.of(FILE)).split("\n")) {
            if (line.startsWith("```")) {
                isCode = !isCode;
            } else if (isHeading(line)) {
                section = line.replaceFirst("^#* *", "");
                sentences.put(section, new LinkedHashSet<>());
            } else if (!isCode && !line.isBlank() && !section.isEmpty()) {
                for (String sentence : line.split("(?<=\\.|\\.\\)) +")) {
                    sentences.get(section).add(sentence);
                }
            }
        }
    }

    /** One heading of the document has lost its signs. */
    private static boolean isHeading(String line) {
        return line.startsWith("#") || line.equals("Snapshots, undo");
    }

    /** Whether a sentence of the section has these words. */
    boolean quote(String section, String words) {
        boolean isFound = false;
        for (String sentence : sentences.getOrDefault(section, Set.of())) {
            if (sentence.contains(words)) {
                quoted.add(section + ": " + sentence);
                isFound = true;
            }
        }
        return isFound;
    }

    /** What no test has quoted, in the sections that promise something. */
    Set<String> unquoted() {
        Set<String> left = new LinkedHashSet<>();
        for (Map.Entry<String, Set<String>> section : sentences.entrySet()) {
            if (section.getKey().equals("Not promised") || section.getKey().equals("What it is")) {
                continue;
            }
            for (String sentence : section.getValue()) {
                String full = section.getKey() + ": " + sentence;
                if (!quoted.contains(full) && !sentence.startsWith("Ahead of the calls")) {
                    left.add(full);
                }
            }
        }
        return left;
    }
}
