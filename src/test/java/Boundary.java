import java.util.LinkedHashSet;
import java.util.Set;

/** Tests of sentences of the document, each known by its section and its words. */
final class Boundary {
    static final int[] WRONG_KEYS = {-1, 100000, Integer.MIN_VALUE, Integer.MAX_VALUE};
    static final String ARGUMENT = "IllegalArgumentException";
    static final String STATE = "IllegalStateException";
    static final String INDEX = "IndexOutOfBoundsException";

    private static final Set<String> TESTED = new LinkedHashSet<>();

    /** Makes a new object and brings it into a state. */
    interface Maker {
        PerfectPew make();
    }

    interface Call {
        Object on(PerfectPew pew);
    }

    private Boundary() {
    }

    static void test(String section, String sentence, Runnable test) {
        String words = section + ": " + sentence;
        int before = Check.count();
        test.run();
        Check.same("checks for '" + words + "'", Check.count() > before, true);
        Check.same("a test of its own for '" + words + "'", TESTED.add(words), true);
    }

    static Set<String> tested() {
        return TESTED;
    }

    /** The call throws, and its object then stands like one that was never called so. */
    static void refused(String what, String exception, Maker maker, Call call) {
        PerfectPew pew = maker.make();
        Check.same(what, Check.outcome(() -> call.on(pew)), "throws." + exception);
        Check.same("what stands after " + what, Snapshot.of(pew), Snapshot.of(maker.make()));
    }

    /** A wrong argument comes ahead of whatever else is wrong, so it is refused in each state. */
    static void refusedAlways(String what, Call call) {
        refusedUnbuilt(what, ARGUMENT, call);
        refused(what + " when built", ARGUMENT, Sets::six, call);
    }

    static void refusedUnbuilt(String what, Call call) {
        refusedUnbuilt(what, STATE, call);
    }

    private static void refusedUnbuilt(String what, String exception, Call call) {
        refused(what + " of a new object", exception, PerfectPew::new, call);
        refused(what + " ahead of build", exception, Sets::open, call);
        refused(what + " once reopened", exception, Sets::reopened, call);
        refused(what + " after a build that failed", exception, Sets::failed, call);
        refused(what + " with 120 keys", exception, Sets::fullOfKeys, call);
    }

    /** Below 0 and from an end on there is none; the end is that of Sets.six(). */
    static void refusedOutside(String what, int end, IndexedCall call) {
        for (int index : new int[] {-1, end, end + 1, Integer.MIN_VALUE, Integer.MAX_VALUE}) {
            refused(what + " " + index, INDEX, Sets::six, pew -> call.on(pew, index));
        }
    }

    interface IndexedCall {
        Object on(PerfectPew pew, int index);
    }

    static Object reopen(PerfectPew pew) {
        pew.reopen();
        return "reopened";
    }
}
