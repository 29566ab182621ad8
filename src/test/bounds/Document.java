import java.io.IOException;
import java.nio.file.Files;
import java.nio.file.Path;
import java.util.LinkedHashMap;
import java.util.LinkedHashSet;
import java.util.Map;
import java.util.Set;

/**
 * The sentences of ../shared/DOC.md by their sections, without backticks, bullets, brackets round them and full stops.
 * What stands on either side of a semicolon counts as a sentence of its own.
 */
final class Document {

    private static final Path PATH = Path.of("..", "shared", "DOC.md");

    private Document() {
    }

    static Map<String, Set<String>> sentences() throws IOException {
        Map<String, Set<String>> sections = new LinkedHashMap<>();
        Set<String> section = new LinkedHashSet<>();
        boolean isCode = false;
        for (String line : Files.readAllLines(PATH)) {
            if (line.startsWith("```")) {
                isCode = !isCode;
            } else if (line.startsWith("## ")) {
                section = new LinkedHashSet<>();
                sections.put(line.substring(3).trim(), section);
            } else if (!isCode && !line.isBlank() && !line.startsWith("# ")) {
                addSentences(section, line);
            }
        }
        return sections;
    }

    private static void addSentences(Set<String> section, String line) {
        String words = line.replaceFirst("^`[^`]*\\([^`]*`: ", "").replaceFirst("^- ", "").replace("`", "");
        for (String sentence : words.split("(?<=[.;])\\s+")) {
            section.add(sentence.trim().replaceFirst("^\\((.*)\\)$", "$1").replaceFirst("[.;]$", ""));
        }
    }
}
