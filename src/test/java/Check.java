import java.util.Arrays;

/** Counts what is as due and what is not; ends the program with 1 if anything is not. */
final class Check {
    private static int passed = 0;
    private static int failed = 0;

    /** A call whose answer or exception is looked at. */
    interface Call {
        Object answer();
    }

    private Check() {
    }

    static void same(String what, Object got, Object due) {
        if (due.equals(got)) {
            passed++;
        } else {
            failed++;
            System.out.println(what + " is " + got + ", due is " + due);
        }
    }

    static void same(String what, int[] got, int[] due) {
        same(what, Arrays.toString(got), Arrays.toString(due));
    }

    static void refusesArgument(String what, Call call) {
        same(what, outcome(call), "throws.IllegalArgumentException");
    }

    static void refusesState(String what, Call call) {
        same(what, outcome(call), "throws.IllegalStateException");
    }

    static void refusesIndex(String what, Call call) {
        same(what, outcome(call), "throws.IndexOutOfBoundsException");
    }

    static String outcome(Call call) {
        try {
            return String.valueOf(call.answer());
        } catch (RuntimeException e) {
            return "throws." + e.getClass().getSimpleName();
        }
    }

    static int count() {
        return passed + failed;
    }

    static void end(String test) {
        System.out.println(test + ": " + passed + " passed, " + failed + " failed");
        if (failed > 0 || passed == 0) {
            System.exit(1);
        }
    }
}
