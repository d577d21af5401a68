import java.io.IOException;
import java.nio.file.Files;
import java.nio.file.Path;
import java.util.ArrayList;
import java.util.HashSet;
import java.util.LinkedHashSet;
import java.util.List;
import java.util.Set;

/** The sentences of the document, each with its section: a test names the one that it looks at. */
final class Document {
    private final Set<String> sentences = new LinkedHashSet<>();
    private final Set<String> named = new HashSet<>();

    Document(Path path) throws IOException {
        String section = "";
        for (String line : Files.readAllLines(path)) {
            if (line.startsWith("## ")) {
                section = line.substring(3).replaceAll(":.*", "");
            } else if (section.matches("What it is|Terms|Promise \\d+")) {
                addLine(section, line);
            }
        }
    }

    // A promise's first line has the call itself in front, which FaceTest looks at. A heading of one
    // or two words says nothing, nor does a line that only groups the calls.
    private void addLine(String section, String line) {
        if (line.startsWith("Ahead of the calls")) {
            return;
        }
        String words = line.replaceFirst("^`.*`: ", "").replaceFirst("^- ", "").replace("`", "");
        for (String sentence : words.split("(?<=\\.) ")) {
            if (!sentence.isEmpty() && !sentence.matches("\\w+( \\w+)?\\.")) {
                sentences.add(name(section, sentence));
            }
        }
    }

    private static String name(String section, String sentence) {
        return section + ", \"" + sentence + "\"";
    }

    /** The name of a sentence, which must stand in the document as it is told here. */
    String named(String section, String sentence) {
        String name = name(section, sentence);
        if (!sentences.contains(name)) {
            throw new AssertionError("the document does not say: " + name);
        }
        named.add(name);
        return name;
    }

    List<String> sentencesWithoutTest() {
        List<String> rest = new ArrayList<>(sentences);
        rest.removeAll(named);
        return rest;
    }
}
