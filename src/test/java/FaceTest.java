import java.lang.reflect.Constructor;
import java.lang.reflect.Field;
import java.lang.reflect.Method;
import java.lang.reflect.Modifier;
import java.util.TreeSet;

/** The public face: the class has the document's members, and no other that can be seen. */
public final class FaceTest {
    private static final String STATE = " IllegalStateException";
    private static final String ARGUMENT = " IllegalArgumentException";
    private static final String INDEX = " IndexOutOfBoundsException";
    private static final String[] METHODS = {
        "int add(int)" + ARGUMENT + STATE,
        "int addLine(int,int,int)" + ARGUMENT + STATE,
        "int remove(int)" + ARGUMENT + STATE,
        "int keys()",
        "boolean has(int)" + ARGUMENT,
        "int keyAt(int)" + INDEX,
        "int build(int,int)" + ARGUMENT + STATE,
        "void reopen()" + STATE,
        "boolean isBuilt()",
        "int number(int)" + ARGUMENT + STATE,
        "int find(int)" + ARGUMENT + STATE,
        "int strangers(int,int)" + ARGUMENT + STATE,
        "int keyOf(int)" + STATE + INDEX,
        "int fingerprint(int)" + STATE + INDEX,
        "int seed()" + STATE,
        "int buckets()" + STATE,
        "int inBucket(int)" + STATE + INDEX,
        "int displacement(int)" + STATE + INDEX,
        "int width()" + STATE,
        "long word(int)" + STATE + INDEX,
        "int byGraph(int)" + ARGUMENT + STATE,
        "int graphSeed()" + STATE,
        "int valueOf(int)" + STATE + INDEX,
    };

    public static void main(String[] args) {
        theClass();
        methods();
        fields();
        namesInside();
        Check.end("FaceTest");
    }

    private static void theClass() {
        int modifiers = PerfectPew.class.getModifiers();
        Check.same("public", Modifier.isPublic(modifiers), true);
        Check.same("final", Modifier.isFinal(modifiers), true);
        Constructor<?>[] constructors = PerfectPew.class.getDeclaredConstructors();
        Check.same("constructors", constructors.length, 1);
        Check.same("the constructor", constructors[0].toString(), "public PerfectPew()");
    }

    private static void methods() {
        TreeSet<String> due = new TreeSet<>();
        for (String method : METHODS) {
            due.add(method);
        }
        TreeSet<String> seen = new TreeSet<>();
        for (Method method : PerfectPew.class.getDeclaredMethods()) {
            if (!Modifier.isPrivate(method.getModifiers())) {
                seen.add(signature(method));
            }
        }
        Check.same("the methods", seen, due);
    }

    private static String signature(Method method) {
        StringBuilder text = new StringBuilder();
        text.append(method.getReturnType()).append(' ').append(method.getName()).append('(');
        for (int i = 0; i < method.getParameterCount(); i++) {
            text.append(i > 0 ? "," : "").append(method.getParameterTypes()[i]);
        }
        text.append(')');
        for (Class<?> exception : method.getExceptionTypes()) {
            text.append(' ').append(exception.getSimpleName());
        }
        return text.toString();
    }

    private static void fields() {
        TreeSet<String> seen = new TreeSet<>();
        for (Field field : PerfectPew.class.getDeclaredFields()) {
            if (!Modifier.isPrivate(field.getModifiers())) {
                seen.add(field.toString());
            }
        }
        Check.same("the constants", seen.toString(),
                "[public static final int PerfectPew.NONE]");
    }

    /** LANGUAGE.md, rule 1: no private method bears the name of a public one. */
    private static void namesInside() {
        TreeSet<String> names = new TreeSet<>();
        for (Method method : PerfectPew.class.getDeclaredMethods()) {
            if (Modifier.isPublic(method.getModifiers())) {
                names.add(method.getName());
            }
        }
        privateNames(PerfectPew.class, names);
        for (Class<?> inside : PerfectPew.class.getDeclaredClasses()) {
            Check.same(inside + " is static", Modifier.isStatic(inside.getModifiers()), true);
            Check.same(inside + " is public", Modifier.isPublic(inside.getModifiers()), false);
            if (!inside.isEnum()) {
                privateNames(inside, names);
            }
        }
    }

    private static void privateNames(Class<?> of, TreeSet<String> taken) {
        for (Method method : of.getDeclaredMethods()) {
            if (Modifier.isPrivate(method.getModifiers())) {
                Check.same(method + " bears a public name", taken.contains(method.getName()), false);
            }
        }
    }
}
