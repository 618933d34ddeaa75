import java.io.IOException;
import java.nio.file.Files;
import java.nio.file.Path;
import java.util.regex.Matcher;
import java.util.regex.Pattern;

/** What LANGUAGE.md rules out and a look at the text of the program can tell. */
public final class LanguageTest {
    private static final String[] RULED_OUT = {
        "^package\\b", "^import (?!java\\.util\\.Arrays;)", "->", "::", "\\bcatch\\b", "\\btry\\b",
        "\\bfinally\\b", "\\bsynchronized\\b", "\\bassert\\b", "\\bvolatile\\b", "\\bnative\\b",
        "\\bThread\\b", "\\bSystem\\b", "\\bRandom\\b", "Exact\\(", "\\bObject\\b", "\\bClass\\b",
        "\\bstatic \\{", "\\bequals\\(", "\\bhashCode\\(", "\\btoString\\(", "\\bextends\\b",
        "\\bdouble\\b", "\\bfloat\\b", "[^\\x00-\\x7f]", "\\bstatic (?!final |int |void |long )",
        "\" *\\+|\\+ *\"", "\\bwhile \\(true\\)", "\\bfor \\(;", "\\bfor \\([^;]*;;",
        "\\((?!int\\))[A-Za-z]+\\) *[a-z(]\\w*[;.(]", "\\bnull\\b",
    };
    private static final String METHOD = "(?m)^( {4,8})(?:public |private |static )*"
            + "\\w+ (\\w+)\\(([^)]*)\\)(?=\\s+(?:throws|\\{))";
    private static final String CLASS = "\\b(?:class|enum|interface|record) (?=\\w)";
    private static final String FIELD = "(?m)^ +private (?!static)[^(]*?[;=]";
    private static final int MOST_LINES = 60;
    private static final int MOST_PARAMETERS = 7;
    private static final int MOST_CLASSES = 12;
    private static final int MOST_FIELDS = 20;

    public static void main(String[] args) throws IOException {
        String text = Files.readString(Path.of(args[0]));
        String code = text.replaceAll("(?s)/\\*.*?\\*/", "").replaceAll("//[^\n]*", "");
        for (String ruledOut : RULED_OUT) {
            Matcher matcher = Pattern.compile(ruledOut, Pattern.MULTILINE).matcher(code);
            Check.same("'" + ruledOut + "' is there", matcher.find(), false);
        }
        exceptions(code);
        indexesAreTested(code);
        divisorsAreTested(code);
        lengthsOfArraysAreTested(code);
        sizes(code);
        Check.end("LanguageTest");
    }

    private static Matcher all(String what, String code) {
        return Pattern.compile(what).matcher(code);
    }

    private static void exceptions(String code) {
        Matcher thrown = all("throw\\b([^;]*);", code);
        while (thrown.find()) {
            Check.same("'throw" + thrown.group(1) + "' throws what the document names",
                    thrown.group(1).matches(" new (Illegal(Argument|State)Exception"
                            + "|IndexOutOfBoundsException)\\(\"[a-z ]+\"\\)"), true);
        }
    }

    /** Rule 7: an index is looked at in its own line or in the one ahead of it. */
    private static void indexesAreTested(String code) {
        Matcher indexed = all("([^\n]*\n)[^\n]*?(\\w+)\\[([^\\]]+)\\][^\n]*", code);
        int found = 0;
        while (indexed.find()) {
            String array = indexed.group(2);
            String index = indexed.group(3);
            if (!array.equals("int") && !array.equals("long")) {
                found++;
                Check.same("'" + array + "[" + index + "]' is tested", indexed.group().contains(
                        index + " >= 0 && " + index + " < " + array + ".length"), true);
            }
        }
        Check.same("indexes are found", found > 0, true);
    }

    /** Rule 7: a divisor is a constant, or tested in the same line. */
    private static void divisorsAreTested(String code) {
        Matcher divided = all("([^\n]*) [/%]=? (\\w+)", code);
        int found = 0;
        while (divided.find()) {
            String divisor = divided.group(2);
            found++;
            Check.same("'" + divisor + "' is tested", divisor.matches("[A-Z_]+")
                    || divided.group(1).contains(divisor + " > 0 ?"), true);
        }
        Check.same("divisors are found", found > 0, true);
    }

    /** Rule 7: a new array's length is made of constants, or is not below 0. */
    private static void lengthsOfArraysAreTested(String code) {
        Matcher made = all("new (?:int|long)\\[(.*)\\];", code);
        int found = 0;
        while (made.find()) {
            found++;
            Check.same("the length " + made.group(1), made.group(1)
                    .matches("Math\\.max\\(\\w+, 0\\)|[A-Z_0-9 ()*/+-]+"), true);
        }
        Check.same("arrays are found", found, 2);
    }

    /** Rule 11: few and small classes and methods. */
    private static void sizes(String code) {
        String[] classes = code.split(CLASS);
        Check.same((classes.length - 1) + " classes are few", classes.length - 1 <= MOST_CLASSES,
                true);
        for (String text : classes) {
            long fields = all(FIELD, text).results().count();
            Check.same(fields + " fields are few", fields <= MOST_FIELDS, true);
        }
        int methods = 0;
        Matcher method = all(METHOD, code);
        while (method.find()) {
            methods++;
            String name = method.group(2);
            int parameters = method.group(3).split(",").length;
            Check.same(name + " takes few", parameters <= MOST_PARAMETERS, true);
            String rest = code.substring(method.start());
            String body = rest.substring(0, rest.indexOf("\n" + method.group(1) + "}"));
            Check.same(name + " is short", body.lines().count() <= MOST_LINES, true);
        }
        Check.same("methods are found", methods > 24, true);
    }
}
