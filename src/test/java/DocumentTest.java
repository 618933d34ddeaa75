import java.io.IOException;
import java.util.ArrayList;
import java.util.List;

/** The document from its first line on: each of its sentences has a test of its own. */
public final class DocumentTest {
    private static final int PROMISES = 24;
    private static final String NAMES_A_BOUNDARY =
            "- `.*|Throws `.*|Returns .*([0-9] to|NONE).*";

    // FaceTest looks at the public face and at the head that each promise begins with.
    private static final List<String> LOOKED_AT_ELSEWHERE =
            List.of("", "The public face", "Not promised");
    private static final String HEAD = "`[^`]*`";

    private static final String ASKS_FOR_NOTHING = HEAD
            + "|A minimal perfect hash for a set of keys"
            + "|what later calls answer is free"
            + "|Hashes|Buckets|Displacing, with a seed|Fingerprints|Packing|The graph, with a seed"
            + "|where A, B and C are"
            + "|Ahead of the calls [`a-zA-Z, ]* the interface says: ---- [a-z ]*";

    public static void main(String[] args) throws IOException {
        TermsSentences.test();
        PromiseSentences.test();
        TermsBoundaries.test();
        KeysBoundaries.test();
        BuildingBoundaries.test();
        LookupBoundaries.test();
        TablesBoundaries.test();
        GraphBoundaries.test();
        Document document = Document.read(args[1]);
        testedIsInTheDocument(document);
        for (String section : document.sections()) {
            if (!LOOKED_AT_ELSEWHERE.contains(section)) {
                eachSentenceIsTested(document, section);
                eachBoundaryIsTested(document, section);
            }
        }
        Check.same("promises", promises(document), PROMISES);
        Check.end("DocumentTest");
    }

    private static int promises(Document document) {
        int promises = 0;
        for (String section : document.sections()) {
            promises += section.startsWith("Promise ") ? 1 : 0;
        }
        return promises;
    }

    private static void testedIsInTheDocument(Document document) {
        for (String tested : Boundary.tested()) {
            int colon = tested.indexOf(": ");
            String text = document.text(tested.substring(0, colon));
            Check.same("'" + tested + "' is in the document",
                    text.contains(tested.substring(colon + 2)), true);
        }
    }

    private static void eachBoundaryIsTested(Document document, String section) {
        for (String line : document.lines(section)) {
            if (section.startsWith("Promise ") && line.matches(NAMES_A_BOUNDARY)) {
                Check.same("'" + section + ": " + line + "' has a test",
                        Boundary.tested().contains(section + ": " + line), true);
            }
        }
    }

    private static void eachSentenceIsTested(Document document, String section) {
        for (String words : untested(document.text(section), section)) {
            Check.same("'" + section + ": " + words + "' asks for nothing",
                    words.matches(ASKS_FOR_NOTHING), true);
        }
    }

    /** The words that stand between those that have a test. */
    private static List<String> untested(String text, String section) {
        StringBuilder left = new StringBuilder(text);
        for (String tested : Boundary.tested()) {
            if (tested.startsWith(section + ": ")) {
                blank(left, text, tested.substring(section.length() + 2));
            }
        }
        List<String> pieces = new ArrayList<>();
        for (String piece : left.toString().split("[\n\0]+")) {
            String words = piece.replaceAll("^[\\s,;:.]+|[\\s,;:.]+$", "");
            if (!words.isEmpty()) {
                pieces.add(words);
            }
        }
        return pieces;
    }

    private static void blank(StringBuilder left, String text, String words) {
        for (int at = text.indexOf(words); at >= 0; at = text.indexOf(words, at + 1)) {
            for (int i = at; i < at + words.length(); i++) {
                left.setCharAt(i, '\0');
            }
        }
    }
}
