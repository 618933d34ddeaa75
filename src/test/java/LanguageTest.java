import java.io.IOException;
import java.nio.file.Files;
import java.nio.file.Path;
import java.util.regex.Matcher;
import java.util.regex.Pattern;

/** What LANGUAGE.md rules out and a look at the text of the program can tell. */
public final class LanguageTest {
    private static final String[] RULED_OUT = {
        "^package\\b", "^import (?!java\\.util\\.Arrays;)", "->", "::", "\\bcatch\\b", "\\btry\\b",
        "\\bfinally\\b", "\\bsynchronized\\b", "\\bassert\\b", "\\bvolatile\\b", "\\bnative\\b",
        "\\bThread\\b", "\\bSystem\\b", "\\bRandom\\b", "Exact\\(", "\\bObject\\b", "\\bClass\\b",
        "\\bstatic \\{", "\\bequals\\(", "\\bhashCode\\(", "\\btoString\\(", "\\bextends\\b",
        "\\bdouble\\b", "\\bfloat\\b", "[^\\x00-\\x7f]", "\\bstatic (?!final |int |void |long )",
    };
    private static final Pattern THROWN = Pattern.compile("throw new (\\w+)");

    public static void main(String[] args) throws IOException {
        String text = Files.readString(Path.of(args[0]));
        String code = text.replaceAll("(?s)/\\*.*?\\*/", "").replaceAll("//[^\n]*", "");
        for (String ruledOut : RULED_OUT) {
            Matcher matcher = Pattern.compile(ruledOut, Pattern.MULTILINE).matcher(code);
            Check.same("'" + ruledOut + "' is there", matcher.find(), false);
        }
        Matcher thrown = THROWN.matcher(code);
        while (thrown.find()) {
            String name = thrown.group(1);
            Check.same(name + " is thrown by name of the document",
                    name.matches("Illegal(Argument|State)Exception|IndexOutOfBoundsException"), true);
        }
        Check.end("LanguageTest");
    }
}
