import java.io.IOException;
import java.nio.file.Files;
import java.nio.file.Path;
import java.util.ArrayList;
import java.util.List;

/** The lines of "The public face" of the document, each as far as its ';' or '{'. */
final class Face {
    private Face() {
    }

    static List<String> lines(Path document) throws IOException {
        List<String> lines = new ArrayList<>();
        boolean inFace = false;
        for (String line : Files.readAllLines(document)) {
            if (line.startsWith("## ")) {
                inFace = line.equals("## The public face");
            } else if (inFace && line.contains("public ")) {
                lines.add(line.strip().replaceFirst(" *[;{]$", ""));
            }
        }
        return lines;
    }

    static Path document() {
        return Path.of(System.getProperty("document", "../shared/DOC.md"));
    }
}
