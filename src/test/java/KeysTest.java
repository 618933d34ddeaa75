/** Promises 1 to 7: a new object, add, addLine, remove, keys, has, keyAt. */
public final class KeysTest {
    private static final int[] WRONG_KEYS = {-1, 100000, Integer.MIN_VALUE, Integer.MAX_VALUE};

    public static void main(String[] args) {
        newObject();
        constant();
        add();
        addRefuses();
        addLine();
        addLineRefuses();
        addLineFills();
        remove();
        removeRefuses();
        keys();
        has();
        keyAt();
        builtKeysStay();
        Check.end("KeysTest");
    }

    private static void newObject() {
        PerfectPew pew = new PerfectPew();
        Check.same("new: keys()", pew.keys(), 0);
        Check.same("new: isBuilt()", pew.isBuilt(), false);
        Check.same("new: has(0)", pew.has(0), false);
        Check.same("new: has(99999)", pew.has(99999), false);
        Check.refusesIndex("new: keyAt(0)", () -> pew.keyAt(0));
        Check.refusesState("new: remove(0)", () -> pew.remove(0));
        Check.refusesState("new: seed()", pew::seed);
        PerfectPew other = Sets.of(3);
        Check.same("another object has keys of its own", pew.keys(), 0);
        Check.same("the other object's keys", other.keys(), 1);
    }

    private static void constant() {
        Check.same("NONE", PerfectPew.NONE, -1);
    }

    private static void add() {
        PerfectPew pew = new PerfectPew();
        Check.same("add(50)", pew.add(50), 1);
        Check.same("add(99999)", pew.add(99999), 2);
        Check.same("add(0)", pew.add(0), 3);
        Check.same("add(49)", pew.add(49), 4);
        Check.same("keys by rank", Sets.ranked(pew), new int[] {0, 49, 50, 99999});
    }

    private static void addRefuses() {
        PerfectPew pew = Sets.of(7);
        for (int key : WRONG_KEYS) {
            Check.refusesArgument("add(" + key + ")", () -> pew.add(key));
        }
        Check.refusesState("add of a key that is there", () -> pew.add(7));
        pew.build(1, 1);
        Check.refusesArgument("add(-1) when built", () -> pew.add(-1));
        Check.refusesState("add(8) when built", () -> pew.add(8));
        Check.same("keys after refusals", Sets.ranked(pew), new int[] {7});
        PerfectPew full = Sets.fullOfKeys();
        Check.refusesState("add of a 121st key", () -> full.add(99999));
        Check.refusesState("add of a key that is there, with 120 keys", () -> full.add(0));
        Check.refusesArgument("add(100000) with 120 keys", () -> full.add(100000));
        Check.same("keys when full", full.keys(), 120);
        Check.same("remove makes room", full.remove(0), 119);
        Check.same("a 120th key", full.add(99999), 120);
    }

    private static void addLine() {
        PerfectPew pew = new PerfectPew();
        Check.same("addLine(10, 5, 3)", pew.addLine(10, 5, 3), 3);
        Check.same("addLine(5, 5, 4), of which 5 alone is new", pew.addLine(5, 5, 4), 4);
        Check.same("a line of keys that are there", pew.addLine(5, 5, 4), 4);
        Check.same("a line of one", pew.addLine(99999, 9999, 1), 5);
        Check.same("addLine(12, 9999, 2)", pew.addLine(12, 9999, 2), 7);
        Check.same("keys by rank", Sets.ranked(pew), new int[] {5, 10, 12, 15, 20, 10011, 99999});
        PerfectPew highest = new PerfectPew();
        Check.same("the highest line", highest.addLine(99960, 1, 40), 40);
        Check.same("its last key", highest.keyAt(39), 99999);
    }

    private static void addLineRefuses() {
        PerfectPew pew = Sets.of(7);
        for (int key : WRONG_KEYS) {
            Check.refusesArgument("addLine(" + key + ", 1, 1)", () -> pew.addLine(key, 1, 1));
        }
        for (int step : new int[] {0, -1, 10000, Integer.MIN_VALUE, Integer.MAX_VALUE}) {
            Check.refusesArgument("step " + step, () -> pew.addLine(1, step, 1));
        }
        for (int many : new int[] {0, -1, 41, Integer.MIN_VALUE, Integer.MAX_VALUE}) {
            Check.refusesArgument("many " + many, () -> pew.addLine(1, 1, many));
        }
        Check.refusesArgument("a first key of -1 alone wrong", () -> pew.addLine(-1, 1, 2));
        Check.refusesArgument("a last key of 100000", () -> pew.addLine(99961, 1, 40));
        Check.refusesArgument("a last key far above", () -> pew.addLine(99999, 9999, 40));
        pew.build(1, 1);
        Check.refusesArgument("a wrong line when built", () -> pew.addLine(99999, 1, 2));
        Check.refusesState("a line when built", () -> pew.addLine(1, 1, 1));
        Check.refusesState("a line of keys there when built", () -> pew.addLine(7, 1, 1));
        Check.same("keys after refusals", Sets.ranked(pew), new int[] {7});
    }

    private static void addLineFills() {
        PerfectPew pew = Sets.line(0, 1, 40);
        pew.addLine(1000, 1, 40);
        pew.addLine(2000, 1, 39);
        Check.refusesState("two more to 119", () -> pew.addLine(2038, 1, 3));
        Check.same("nothing of it is added", pew.has(2039), false);
        Check.refusesArgument("a wrong line that would be too much", () -> pew.addLine(99998, 1, 3));
        Check.same("one more to 119", pew.addLine(2000, 1, 40), 120);
        Check.same("none more to 120", pew.addLine(2000, 1, 40), 120);
        Check.refusesState("one more to 120", () -> pew.addLine(2001, 1, 40));
        Check.same("still 120", pew.keys(), 120);
    }

    private static void remove() {
        PerfectPew pew = Sets.of(4, 0, 99999, 17);
        Check.same("remove of one between", pew.remove(4), 3);
        Check.same("keys then", Sets.ranked(pew), new int[] {0, 17, 99999});
        Check.same("remove of the highest", pew.remove(99999), 2);
        Check.same("remove of the lowest", pew.remove(0), 1);
        Check.same("the key that is left", Sets.ranked(pew), new int[] {17});
        Check.same("remove of the last", pew.remove(17), 0);
        Check.same("added again", pew.add(17), 1);
    }

    private static void removeRefuses() {
        PerfectPew pew = Sets.of(4, 9);
        for (int key : WRONG_KEYS) {
            Check.refusesArgument("remove(" + key + ")", () -> pew.remove(key));
        }
        Check.refusesState("remove of a key not there", () -> pew.remove(5));
        Check.refusesState("remove above the highest", () -> pew.remove(99999));
        pew.build(1, 1);
        Check.refusesArgument("remove(-1) when built", () -> pew.remove(-1));
        Check.refusesState("remove when built", () -> pew.remove(4));
        Check.refusesState("remove of none when built", () -> pew.remove(5));
        Check.same("keys after refusals", Sets.ranked(pew), new int[] {4, 9});
    }

    private static void keys() {
        PerfectPew pew = new PerfectPew();
        pew.addLine(0, 1, 2);
        Check.same("keys() of two", pew.keys(), 2);
        pew.build(1, 1);
        Check.same("keys() when built", pew.keys(), 2);
        pew.reopen();
        pew.remove(1);
        Check.same("keys() after remove", pew.keys(), 1);
    }

    private static void has() {
        PerfectPew pew = Sets.of(0, 500, 99999);
        Check.same("has(0)", pew.has(0), true);
        Check.same("has(500)", pew.has(500), true);
        Check.same("has(99999)", pew.has(99999), true);
        Check.same("has(1)", pew.has(1), false);
        Check.same("has(501)", pew.has(501), false);
        for (int key : WRONG_KEYS) {
            Check.refusesArgument("has(" + key + ")", () -> pew.has(key));
        }
        pew.remove(500);
        Check.same("has(500) once removed", pew.has(500), false);
        pew.build(1, 4);
        Check.same("has(0) when built", pew.has(0), true);
        Check.same("has(500) when built", pew.has(500), false);
        Check.refusesArgument("has(100000) when built", () -> pew.has(100000));
    }

    private static void keyAt() {
        PerfectPew pew = Sets.of(30, 10, 20);
        Check.same("keyAt(0)", pew.keyAt(0), 10);
        Check.same("keyAt(2)", pew.keyAt(2), 30);
        for (int rank : new int[] {-1, 3, 120, Integer.MIN_VALUE, Integer.MAX_VALUE}) {
            Check.refusesIndex("keyAt(" + rank + ")", () -> pew.keyAt(rank));
        }
        pew.remove(10);
        Check.same("keyAt(0) once 10 is removed", pew.keyAt(0), 20);
        Check.refusesIndex("keyAt(2) once 10 is removed", () -> pew.keyAt(2));
        pew.build(1, 1);
        Check.same("keyAt(1) when built", pew.keyAt(1), 30);
        Check.refusesIndex("keyAt(2) when built", () -> pew.keyAt(2));
    }

    private static void builtKeysStay() {
        PerfectPew pew = Sets.of(6, 5);
        pew.build(6, 12);
        Check.same("keys by rank when built", Sets.ranked(pew), new int[] {5, 6});
        pew.reopen();
        Check.same("keys by rank when reopened", Sets.ranked(pew), new int[] {5, 6});
    }
}
