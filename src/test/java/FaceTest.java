import java.io.IOException;
import java.lang.reflect.Constructor;
import java.lang.reflect.Field;
import java.lang.reflect.Method;
import java.lang.reflect.Modifier;
import java.nio.file.Files;
import java.nio.file.Path;
import java.util.List;
import java.util.TreeSet;

/** The public face: the class has the document's members, and no other that can be seen. */
public final class FaceTest {
    private static final String METHOD = "    public (?!final|static).* .*[(].*";

    public static void main(String[] args) throws IOException {
        Document document = Document.read(args[1]);
        List<String> face = document.lines("The public face");
        String text = Files.readString(Path.of(args[0])).replaceAll("\\s+", " ");
        theClass();
        methods(face);
        fields();
        namesInside();
        linesOfTheFace(face, text);
        headsOfThePromises(face, document);
        Check.end("FaceTest");
    }

    /** Names of arguments are in the text alone. */
    private static void linesOfTheFace(List<String> face, String text) {
        for (String line : face) {
            String words = line.strip();
            if (words.startsWith("public ")) {
                Check.same("'" + words + "' is in the text",
                        text.contains(words) || text.contains(words.replace(";", " {")), true);
            }
        }
    }

    private static void headsOfThePromises(List<String> face, Document document) {
        int promises = 0;
        for (String line : face) {
            if (line.startsWith("    public ") && line.contains("(")) {
                promises++;
                String head = line.strip().replaceAll("^public |;$", "");
                Check.same("promise " + promises + " is " + head,
                        document.text("Promise " + promises).contains("`" + head + "`: "), true);
            }
        }
        Check.same("members with a promise", promises, 24);
    }

    private static void theClass() {
        int modifiers = PerfectPew.class.getModifiers();
        Check.same("public", Modifier.isPublic(modifiers), true);
        Check.same("final", Modifier.isFinal(modifiers), true);
        Constructor<?>[] constructors = PerfectPew.class.getDeclaredConstructors();
        Check.same("constructors", constructors.length, 1);
        Check.same("the constructor", constructors[0].toString(), "public PerfectPew()");
    }

    private static void methods(List<String> face) {
        TreeSet<String> due = new TreeSet<>();
        for (String line : face) {
            if (line.matches(METHOD)) {
                due.add(withoutNames(line));
            }
        }
        TreeSet<String> seen = new TreeSet<>();
        for (Method method : PerfectPew.class.getDeclaredMethods()) {
            if (!Modifier.isPrivate(method.getModifiers())) {
                seen.add(signature(method));
            }
        }
        Check.same("the methods", seen, due);
    }

    /** Arguments by their types alone, and the exceptions behind them. */
    private static String withoutNames(String line) {
        return line.replaceAll("^ *public |;$| throws|,(?= [A-Z])", "")
                .replaceAll("int [a-z]+(?=[,)])", "int").replace(", ", ",");
    }

    private static String signature(Method method) {
        StringBuilder text = new StringBuilder();
        text.append(method.getReturnType()).append(' ').append(method.getName()).append('(');
        for (int i = 0; i < method.getParameterCount(); i++) {
            text.append(i > 0 ? "," : "").append(method.getParameterTypes()[i]);
        }
        text.append(')');
        for (Class<?> exception : method.getExceptionTypes()) {
            text.append(' ').append(exception.getSimpleName());
        }
        return text.toString();
    }

    private static void fields() {
        TreeSet<String> seen = new TreeSet<>();
        for (Field field : PerfectPew.class.getDeclaredFields()) {
            if (!Modifier.isPrivate(field.getModifiers())) {
                seen.add(field.toString());
            }
        }
        Check.same("the constants", seen.toString(),
                "[public static final int PerfectPew.NONE]");
        Check.same("NONE", PerfectPew.NONE, -1);
    }

    /** LANGUAGE.md, rule 1: no private method bears the name of a public one. */
    private static void namesInside() {
        TreeSet<String> names = new TreeSet<>();
        for (Method method : PerfectPew.class.getDeclaredMethods()) {
            if (Modifier.isPublic(method.getModifiers())) {
                names.add(method.getName());
            }
        }
        privateNames(PerfectPew.class, names);
        for (Class<?> inside : PerfectPew.class.getDeclaredClasses()) {
            Check.same(inside + " is static", Modifier.isStatic(inside.getModifiers()), true);
            Check.same(inside + " is public", Modifier.isPublic(inside.getModifiers()), false);
            if (!inside.isEnum()) {
                privateNames(inside, names);
            }
        }
    }

    private static void privateNames(Class<?> of, TreeSet<String> taken) {
        for (Method method : of.getDeclaredMethods()) {
            if (Modifier.isPrivate(method.getModifiers())) {
                Check.same(method + " bears a public name", taken.contains(method.getName()), false);
            }
        }
    }
}
