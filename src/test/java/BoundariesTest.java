import java.io.IOException;
import java.nio.file.Files;
import java.nio.file.Path;
import java.util.HashMap;
import java.util.List;
import java.util.Map;
import java.util.Set;

/** The boundary cases that the document names, and that each such line has a test of its own. */
public final class BoundariesTest {
    private static final String NAMES_A_BOUNDARY =
            "- `.*|Throws `.*|Returns .*([0-9] to|NONE).*";

    public static void main(String[] args) throws IOException {
        TermsBoundaries.test();
        KeysBoundaries.test();
        BuildingBoundaries.test();
        LookupBoundaries.test();
        TablesBoundaries.test();
        GraphBoundaries.test();
        List<String> document = Files.readAllLines(Path.of(args[1]));
        testedIsInTheDocument(textBySection(document));
        eachBoundaryIsTested(document);
        Check.end("BoundariesTest");
    }

    private static String section(String heading) {
        return heading.replaceFirst("## ", "").replaceFirst(":.*", "");
    }

    private static Map<String, String> textBySection(List<String> document) {
        Map<String, String> texts = new HashMap<>();
        String section = "";
        for (String line : document) {
            if (line.startsWith("## ")) {
                section = section(line);
            }
            texts.merge(section, line, (text, more) -> text + "\n" + more);
        }
        return texts;
    }

    private static void testedIsInTheDocument(Map<String, String> texts) {
        for (String tested : Boundary.tested()) {
            int colon = tested.indexOf(": ");
            String text = texts.getOrDefault(tested.substring(0, colon), "");
            Check.same("'" + tested + "' is in the document",
                    text.contains(tested.substring(colon + 2)), true);
        }
    }

    private static void eachBoundaryIsTested(List<String> document) {
        Set<String> tested = Boundary.tested();
        int promises = 0;
        String section = "";
        for (String line : document) {
            if (line.startsWith("## ")) {
                section = section(line);
                promises += section.startsWith("Promise ") ? 1 : 0;
            } else if (section.startsWith("Promise ") && line.matches(NAMES_A_BOUNDARY)) {
                Check.same("'" + section + ": " + line + "' has a test",
                        tested.contains(section + ": " + line), true);
            }
        }
        Check.same("promises", promises, 24);
    }
}
