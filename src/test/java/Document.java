import java.io.IOException;
import java.nio.file.Files;
import java.nio.file.Path;
import java.util.LinkedHashMap;
import java.util.List;
import java.util.Map;
import java.util.Set;

/** DOC.md by its sections; a section is known by its heading up to the colon. */
final class Document {
    private final Map<String, String> texts = new LinkedHashMap<>();

    private Document() {
    }

    static Document read(String path) throws IOException {
        Document document = new Document();
        String section = "";
        for (String line : Files.readAllLines(Path.of(path))) {
            if (line.startsWith("## ")) {
                section = line.substring(3).replaceFirst(":.*", "");
                document.texts.put(section, "");
            } else {
                document.texts.merge(section, line, (text, more) -> text + "\n" + more);
            }
        }
        return document;
    }

    Set<String> sections() {
        return texts.keySet();
    }

    String text(String section) {
        return texts.getOrDefault(section, "");
    }

    List<String> lines(String section) {
        return text(section).lines().toList();
    }
}
