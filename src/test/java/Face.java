import java.io.IOException;
import java.nio.file.Files;
import java.nio.file.Path;
import java.util.ArrayList;
import java.util.List;

/** The public face as the document writes it. */
final class Face {
    private static final Path DOCUMENT = Path.of("../shared/DOC.md");

    private Face() {
    }

    /** The lines of the document's face, each without the semicolon that ends it; the first one is the class's. */
    static List<String> lines() throws IOException {
        List<String> lines = new ArrayList<>();
        for (String line : blocks(Files.readString(DOCUMENT), "java")) {
            if (line.contains("public ")) {
                lines.add(line.strip().replaceAll(" ?[;{]$", ""));
            }
        }
        return lines;
    }

    /** The document's KINDS as a number and a name in capitals, such as 1 AT MOST. */
    static List<String> kinds() throws IOException {
        List<String> kinds = new ArrayList<>();
        for (String line : blocks(Files.readString(DOCUMENT), "text")) {
            for (String part : line.split("(?=\\b\\d [A-Z]{2})")) {
                if (part.matches("\\d [A-Z]{2}.*")) {
                    kinds.add(part.substring(0, part.indexOf(':')));
                }
            }
        }
        return kinds;
    }

    /** The lines of a text's code blocks of one sort. */
    static List<String> blocks(String text, String sort) {
        List<String> lines = new ArrayList<>();
        boolean inside = false;
        for (String line : text.split("\n")) {
            if (line.startsWith("```")) {
                inside = line.equals("```" + sort);
            } else if (inside) {
                lines.add(line);
            }
        }
        return lines;
    }
}
