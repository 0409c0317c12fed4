import java.io.IOException;
import java.nio.charset.StandardCharsets;
import java.nio.file.Files;
import java.nio.file.Path;
import java.util.ArrayList;
import java.util.LinkedHashMap;
import java.util.List;
import java.util.Map;

/** The document by its sections, so that tests can be held against its sentences. */
final class Document {
    private final Map<String, List<String>> sections = new LinkedHashMap<>();

    static Document read(Path path) throws IOException {
        Document document = new Document();
        List<String> lines = new ArrayList<>();
        for (String line : Files.readAllLines(path, StandardCharsets.UTF_8)) {
            if (line.startsWith("#")) {
                lines = new ArrayList<>();
                document.sections.put(line.replaceFirst("#+ ", ""), lines);
            } else if (!line.isBlank()) {
                lines.add(line.strip());
            }
        }
        return document;
    }

    /** "Promise 7" stands for the section whose heading is "Promise 7: split". */
    private List<String> linesOf(String section) {
        for (Map.Entry<String, List<String>> entry : sections.entrySet()) {
            if (entry.getKey().equals(section) || entry.getKey().startsWith(section + ":")) {
                return entry.getValue();
            }
        }
        return List.of();
    }

    boolean holds(String section, String words) {
        return String.join(" ", linesOf(section)).contains(words);
    }

    /** The sentences of a section that tells terms. */
    List<String> sentencesOf(String section) {
        return List.of(String.join(" ", linesOf(section)).split("(?<=\\.\\)?) +(?=[A-Z(])"));
    }

    /** What stands below the first line of a promise: its parameters, what it returns and what it throws. */
    List<String> clausesOf(int promise) {
        List<String> lines = linesOf("Promise " + promise);
        return lines.isEmpty() ? lines : lines.subList(1, lines.size());
    }

    String firstLineOf(int promise) {
        List<String> lines = linesOf("Promise " + promise);
        return lines.isEmpty() ? "" : lines.get(0);
    }
}
