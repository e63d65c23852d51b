import java.io.IOException;
import java.nio.file.Files;
import java.nio.file.Path;
import java.util.LinkedHashSet;
import java.util.Set;

/**
 * The sentences of the document, each written with its section before it. A test says which one it
 * holds the class to: that one must stand there, and none of "What it is", the terms and the
 * promises may be left. (FaceTest reads the face; the rest is "Not promised".)
 */
final class Sentences {
    private final Set<String> written = new LinkedHashSet<>();
    private final Set<String> held = new LinkedHashSet<>();

    Sentences(Path document) throws IOException {
        String section = "";
        for (String line : Files.readAllLines(document)) {
            if (line.startsWith("## ")) {
                section = line.substring(3).split(":")[0];
            } else if (!line.isBlank()) {
                addAll(section, line);
            }
        }
    }

    private void addAll(String section, String line) {
        String text = line.replaceFirst("^`[^`]*`: ", "");
        // The two dots of "0 .. N - 1" end no sentence.
        for (String sentence : text.split("(?<=[^.]\\.) (?=[A-Z(])")) {
            written.add(named(section, sentence));
        }
    }

    private static String named(String section, String sentence) {
        return section + ", \"" + sentence + "\"";
    }

    void hold(String section, String sentence) {
        String name = named(section, sentence);
        Checks.at(name);
        Checks.same("is it in the document", written.contains(name) ? "yes" : "no", "yes");
        held.add(name);
    }

    void end() {
        for (String name : written) {
            if (name.startsWith("What it is") || name.startsWith("Terms") || name.startsWith("Promise")) {
                Checks.at(name);
                Checks.same("has it a test", held.contains(name) ? "yes" : "no", "yes");
            }
        }
    }
}
