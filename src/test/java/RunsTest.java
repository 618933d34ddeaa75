import java.lang.reflect.InvocationTargetException;
import java.lang.reflect.Method;
import java.util.ArrayList;
import java.util.List;
import java.util.Random;

/** Runs of calls, made from fixed seeds, answered by the program as by the plain model. */
public final class RunsTest {
    private static final int RUNS = 600;
    private static final int CALLS = 512;
    private static final int[] ODD = {
        -1, 0, 1, 2, 99999, 100000, 5000, 4999, Integer.MIN_VALUE, Integer.MAX_VALUE};
    private static final String[] CHANGES = {
        "add", "add", "add", "addLine", "addLine", "remove", "remove", "has", "keyAt", "keys"};
    private static final String[] LOOKS = {
        "number", "find", "strangers", "keyOf", "fingerprint", "seed", "buckets", "inBucket",
        "displacement", "width", "word", "byGraph", "graphSeed", "valueOf", "isBuilt", "keys",
        "has", "keyAt"};

    private final Random random;
    private final PerfectPew pew = new PerfectPew();
    private final PlainModel model = new PlainModel();
    private final int highest;
    private final int patience;
    private final List<String> told = new ArrayList<>();
    private boolean wrong = false;

    private RunsTest(int seed) {
        random = new Random(seed);
        highest = new int[] {20, 300, 3000, 99999}[random.nextInt(4)];
        patience = 1 + random.nextInt(40);
    }

    public static void main(String[] args) {
        for (int seed = 0; seed < RUNS; seed++) {
            Check.same("run " + seed, new RunsTest(seed).firstWrong(), "");
        }
        Check.end("RunsTest");
    }

    /** The calls up to the first wrong answer; nothing if all are right. */
    private String firstWrong() {
        for (int i = 0; i < CALLS && !wrong; i++) {
            next();
        }
        return wrong ? String.join("\n", told) : "";
    }

    private void next() {
        if (random.nextInt(100) == 0) {
            any();
        } else if (model.isBuilt()) {
            if (random.nextInt(4 * patience) == 0) {
                call("reopen");
            } else {
                look(LOOKS[random.nextInt(LOOKS.length)]);
            }
        } else if (random.nextInt(patience) == 0) {
            call("build", number(6) + 1, number(12) + 1);
        } else {
            change(CHANGES[random.nextInt(CHANGES.length)]);
        }
    }

    private void any() {
        int way = random.nextInt(4);
        if (way == 0) {
            call(random.nextBoolean() ? "build" : "strangers", odd(), odd());
        } else if (way == 1) {
            call("addLine", odd(), odd(), odd());
        } else if (way == 2) {
            look(LOOKS[random.nextInt(LOOKS.length)]);
        } else {
            change(CHANGES[random.nextInt(CHANGES.length)]);
        }
    }

    private void change(String name) {
        if (name.equals("addLine")) {
            int longest = random.nextInt(4) == 0 ? 40 : 8;
            int widest = Math.min(9999, 1 + highest / 20);
            call(name, key(), 1 + number(widest), 1 + number(longest));
        } else if (name.equals("remove") && model.keys() > 0 && random.nextInt(5) > 0) {
            call(name, model.keyAt(random.nextInt(model.keys())));
        } else {
            look(name);
        }
    }

    private void look(String name) {
        switch (name) {
            case "keys", "isBuilt", "seed", "buckets", "width", "graphSeed" -> call(name);
            case "strangers" -> span();
            case "keyAt", "keyOf", "fingerprint" -> call(name, number(model.keys()));
            case "valueOf" -> call(name, number(3 * model.keys()));
            case "inBucket", "displacement" -> call(name, number(bucketsNow()));
            case "word" -> call(name, number(1 + bucketsNow() / 12));
            default -> call(name, key());
        }
    }

    private int bucketsNow() {
        return model.isBuilt() ? model.buckets() : 3;
    }

    private void span() {
        int from = key();
        int most = random.nextInt(10) == 0 ? 5001 : 60;
        call("strangers", from, from + random.nextInt(most) - (random.nextInt(20) == 0 ? 2 : 0));
    }

    private int key() {
        if (model.keys() > 0 && random.nextInt(3) == 0) {
            return model.keyAt(random.nextInt(model.keys()));
        }
        return number(highest + 1);
    }

    private int odd() {
        return ODD[random.nextInt(ODD.length)];
    }

    /** Below an end, for the most part. */
    private int number(int end) {
        int way = random.nextInt(40);
        if (way == 0) {
            return odd();
        }
        return way == 1 ? end : random.nextInt(Math.max(1, end));
    }

    private void call(String name, int... arguments) {
        String got = answer(pew, name, arguments);
        String due = answer(model, name, arguments);
        StringBuilder text = new StringBuilder(name).append('(');
        for (int i = 0; i < arguments.length; i++) {
            text.append(i > 0 ? ", " : "").append(arguments[i]);
        }
        told.add(text + ") = " + due);
        if (!got.equals(due)) {
            wrong = true;
            told.add("but the program answered " + got);
        }
    }

    private static String answer(Object object, String name, int... arguments) {
        Class<?>[] types = new Class<?>[arguments.length];
        Object[] boxed = new Object[arguments.length];
        for (int i = 0; i < arguments.length; i++) {
            types[i] = int.class;
            boxed[i] = arguments[i];
        }
        try {
            Method method = object.getClass().getMethod(name, types);
            return String.valueOf(method.invoke(object, boxed));
        } catch (InvocationTargetException e) {
            return "throws." + e.getCause().getClass().getSimpleName();
        } catch (ReflectiveOperationException e) {
            throw new IllegalStateException(e);
        }
    }
}
