/** The boundary cases that promises 1 to 7 name. */
final class KeysBoundaries {
    private static final String KEY = "- `key`: 0 to 99999";
    private static final String KEY_REFUSED =
            "Throws `IllegalArgumentException` if key is out of range";

    private KeysBoundaries() {
    }

    static void test() {
        Boundary.test("Promise 1", "No keys; nothing is built.", KeysBoundaries::newObject);
        add();
        addLine();
        remove();
        Boundary.test("Promise 5", "Returns how many keys there are.",
                KeysBoundaries::fewestAndMostKeys);
        Boundary.test("Promise 6", KEY, KeysBoundaries::hasLowestAndHighest);
        Boundary.test("Promise 6", KEY_REFUSED, KeysBoundaries::hasRefusesKeys);
        Boundary.test("Promise 7", "- `rank`: 0 to keys() - 1", KeysBoundaries::firstAndLastRank);
        Boundary.test("Promise 7", "Throws `IndexOutOfBoundsException` if there is none",
                KeysBoundaries::keyAtRefusesRanks);
    }

    private static void newObject() {
        PerfectPew pew = new PerfectPew();
        Check.same("keys()", pew.keys(), 0);
        Check.same("isBuilt()", pew.isBuilt(), false);
        Check.same("has(0)", pew.has(0), false);
        Check.same("has(99999)", pew.has(99999), false);
        Check.refusesIndex("keyAt(0)", () -> pew.keyAt(0));
        Check.refusesState("remove(0)", () -> pew.remove(0));
        Check.refusesState("build(1, 1)", () -> pew.build(1, 1));
        Check.refusesState("reopen()", () -> Boundary.reopen(pew));
        Check.refusesState("valueOf(0)", () -> pew.valueOf(0));
    }

    // ---- add

    private static void add() {
        Boundary.test("Promise 2", KEY, KeysBoundaries::addLowestAndHighest);
        Boundary.test("Promise 2", KEY_REFUSED, KeysBoundaries::addRefusesKeys);
        Boundary.test("Promise 2", "Throws `IllegalStateException` if the tables are built, the key"
                + " is there, or 120 keys are", KeysBoundaries::addAtTheWrongTime);
    }

    private static void addLowestAndHighest() {
        PerfectPew pew = new PerfectPew();
        Check.same("add(99999)", pew.add(99999), 1);
        Check.same("add(0)", pew.add(0), 2);
        Check.same("the keys", Sets.ranked(pew), new int[] {0, 99999});
    }

    private static void addRefusesKeys() {
        for (int key : Boundary.WRONG_KEYS) {
            Boundary.refusedAlways("add(" + key + ")", pew -> pew.add(key));
        }
    }

    private static void addAtTheWrongTime() {
        Boundary.refused("add(3) when built", Boundary.STATE, Sets::six, pew -> pew.add(3));
        Boundary.refused("add(100) when built", Boundary.STATE, Sets::six, pew -> pew.add(100));
        Boundary.refused("add of the lowest key again", Boundary.STATE, Sets::open,
                pew -> pew.add(100));
        Boundary.refused("add of the highest key again", Boundary.STATE, Sets::open,
                pew -> pew.add(135));
        Boundary.refused("a 121st key", Boundary.STATE, Sets::fullOfKeys, pew -> pew.add(99999));
        Boundary.refused("a key again with 120", Boundary.STATE, Sets::fullOfKeys,
                pew -> pew.add(0));
        Boundary.refused("a 121st key when built", Boundary.STATE, Sets::full, pew -> pew.add(0));
        PerfectPew pew = Sets.fullOfKeys();
        pew.remove(2117);
        Check.same("a 120th key", pew.add(99999), 120);
    }

    // ---- addLine

    private static void addLine() {
        Boundary.test("Promise 3", "those that are there already are left out.",
                KeysBoundaries::keysLeftOut);
        Boundary.test("Promise 3", "- `first`: 0 to 99999", KeysBoundaries::lowestAndHighestFirst);
        Boundary.test("Promise 3", "- `step`: 1 to 9999", KeysBoundaries::leastAndGreatestStep);
        Boundary.test("Promise 3", "- `many`: 1 to 40: how many, those left out included",
                KeysBoundaries::fewestAndMostInALine);
        Boundary.test("Promise 3", "Throws `IllegalArgumentException` if first, step or many is out"
                + " of range, or one of the keys would be above 99999",
                KeysBoundaries::addLineRefusesArguments);
        Boundary.test("Promise 3", "Throws `IllegalStateException` if the tables are built, or there"
                + " would be more than 120 keys", KeysBoundaries::addLineAtTheWrongTime);
    }

    private static void keysLeftOut() {
        PerfectPew pew = Sets.open();
        Check.same("all left out", pew.addLine(100, 7, 6), 6);
        Check.same("the first left out", pew.addLine(135, 7, 2), 7);
        Check.same("the last left out", pew.addLine(93, 7, 2), 8);
        Check.same("one between left out", pew.addLine(99, 1, 3), 10);
        Check.same("the keys", Sets.ranked(pew),
                new int[] {93, 99, 100, 101, 107, 114, 121, 128, 135, 142});
    }

    private static void lowestAndHighestFirst() {
        PerfectPew pew = new PerfectPew();
        Check.same("from 0", pew.addLine(0, 1, 2), 2);
        Check.same("from 99999", pew.addLine(99999, 1, 1), 3);
        Check.same("the keys", Sets.ranked(pew), new int[] {0, 1, 99999});
    }

    private static void leastAndGreatestStep() {
        PerfectPew pew = new PerfectPew();
        Check.same("by 1", pew.addLine(5, 1, 3), 3);
        Check.same("by 9999", pew.addLine(9, 9999, 11), 14);
        Check.same("the second by 9999", pew.has(10008), true);
        Check.same("the last by 9999", pew.keyAt(13), 99999);
    }

    private static void fewestAndMostInALine() {
        PerfectPew pew = new PerfectPew();
        Check.same("one", pew.addLine(7, 9999, 1), 1);
        Check.same("not a second", pew.has(10006), false);
        Check.same("40, of which one is left out", pew.addLine(0, 1, 40), 40);
        Check.same("40 of which none is", pew.addLine(99960, 1, 40), 80);
        Check.same("the 40th", pew.has(39), true);
        Check.same("not a 41st", pew.has(40), false);
        Check.refusesArgument("41, of which 40 are there", () -> pew.addLine(0, 1, 41));
    }

    private static void addLineRefusesArguments() {
        for (int key : Boundary.WRONG_KEYS) {
            Boundary.refusedAlways("first " + key, pew -> pew.addLine(key, 1, 1));
        }
        for (int step : new int[] {0, -1, 10000, Integer.MIN_VALUE, Integer.MAX_VALUE}) {
            Boundary.refusedAlways("step " + step, pew -> pew.addLine(0, step, 1));
        }
        for (int many : new int[] {0, -1, 41, Integer.MIN_VALUE, Integer.MAX_VALUE}) {
            Boundary.refusedAlways("many " + many, pew -> pew.addLine(0, 1, many));
        }
        Boundary.refusedAlways("first -1, the others fine", pew -> pew.addLine(-1, 1, 2));
        Boundary.refusedAlways("a last key of 100000", pew -> pew.addLine(99961, 1, 40));
        Boundary.refusedAlways("a last key of 100000 by 9999", pew -> pew.addLine(10, 9999, 11));
        Boundary.refusedAlways("the highest line", pew -> pew.addLine(99999, 9999, 40));
        Boundary.refusedAlways("all out of range", pew -> pew.addLine(Integer.MAX_VALUE,
                Integer.MAX_VALUE, Integer.MAX_VALUE));
    }

    private static void addLineAtTheWrongTime() {
        Boundary.refused("a line when built", Boundary.STATE, Sets::six,
                pew -> pew.addLine(0, 1, 1));
        Boundary.refused("a line of keys there when built", Boundary.STATE, Sets::six,
                pew -> pew.addLine(100, 7, 6));
        Boundary.refused("one more to 120", Boundary.STATE, Sets::fullOfKeys,
                pew -> pew.addLine(1, 1, 40));
        Boundary.refused("40 more to 120", Boundary.STATE, Sets::fullOfKeys,
                pew -> pew.addLine(3000, 1, 40));
        PerfectPew pew = Sets.fullOfKeys();
        Check.same("none more to 120", pew.addLine(0, 1, 40), 120);
        pew.remove(20);
        pew.remove(0);
        Check.refusesState("three more to 118", () -> pew.addLine(99997, 1, 3));
        Check.same("not one of them is there", pew.has(99997), false);
        Check.same("two more to 118", pew.addLine(0, 1, 40), 120);
    }

    // ---- remove, keys, has, keyAt

    private static void remove() {
        Boundary.test("Promise 4", KEY, KeysBoundaries::removeLowestAndHighest);
        Boundary.test("Promise 4", "Returns how many keys there are then.",
                KeysBoundaries::removeTheLast);
        Boundary.test("Promise 4", KEY_REFUSED, KeysBoundaries::removeRefusesKeys);
        Boundary.test("Promise 4", "Throws `IllegalStateException` if the tables are built, or the"
                + " key is not there", KeysBoundaries::removeAtTheWrongTime);
    }

    private static void removeLowestAndHighest() {
        PerfectPew pew = Sets.of(0, 5, 99999);
        Check.same("remove(99999)", pew.remove(99999), 2);
        Check.same("remove(0)", pew.remove(0), 1);
        Check.same("the key that is left", Sets.ranked(pew), new int[] {5});
        PerfectPew full = Sets.fullOfKeys();
        Check.same("the highest of 120", full.remove(2117), 119);
        Check.same("the highest of 119", full.keyAt(118), 2114);
        Check.refusesIndex("a rank 119", () -> full.keyAt(119));
        Check.same("the lowest of 119", full.remove(0), 118);
        Check.same("the lowest of 118", full.keyAt(0), 1);
        Check.same("the highest of 118", full.keyAt(117), 2114);
    }

    private static void removeTheLast() {
        PerfectPew pew = Sets.of(17);
        Check.same("none is left", pew.remove(17), 0);
        Check.same("what stands", Snapshot.of(pew), Snapshot.of(new PerfectPew()));
        Check.same("it can be added again", pew.add(17), 1);
    }

    private static void removeRefusesKeys() {
        for (int key : Boundary.WRONG_KEYS) {
            Boundary.refusedAlways("remove(" + key + ")", pew -> pew.remove(key));
        }
    }

    private static void removeAtTheWrongTime() {
        Boundary.refused("remove when built", Boundary.STATE, Sets::six, pew -> pew.remove(100));
        Boundary.refused("remove of none when built", Boundary.STATE, Sets::six,
                pew -> pew.remove(3));
        Boundary.refused("remove from none", Boundary.STATE, PerfectPew::new,
                pew -> pew.remove(0));
        for (int key : new int[] {0, 99, 101, 134, 136, 99999}) {
            Boundary.refused("remove(" + key + ")", Boundary.STATE, Sets::open,
                    pew -> pew.remove(key));
        }
        Boundary.refused("remove of one more from 120", Boundary.STATE, Sets::fullOfKeys,
                pew -> pew.remove(99999));
        PerfectPew pew = Sets.open();
        pew.remove(135);
        Check.refusesState("the same once more", () -> pew.remove(135));
    }

    private static void fewestAndMostKeys() {
        Check.same("none", new PerfectPew().keys(), 0);
        Check.same("one", Sets.of(5).keys(), 1);
        Check.same("120", Sets.fullOfKeys().keys(), 120);
        Check.same("120 when built", Sets.full().keys(), 120);
        PerfectPew pew = Sets.of(5);
        pew.remove(5);
        Check.same("none again", pew.keys(), 0);
    }

    private static void hasLowestAndHighest() {
        PerfectPew pew = Sets.of(0, 99999);
        Check.same("has(0)", pew.has(0), true);
        Check.same("has(1)", pew.has(1), false);
        Check.same("has(99998)", pew.has(99998), false);
        Check.same("has(99999)", pew.has(99999), true);
        PerfectPew full = Sets.fullOfKeys();
        Check.same("has(2117) of 120", full.has(2117), true);
        Check.same("has(99999) of 120", full.has(99999), false);
    }

    private static void hasRefusesKeys() {
        for (int key : Boundary.WRONG_KEYS) {
            Boundary.refusedAlways("has(" + key + ")", pew -> pew.has(key));
        }
    }

    private static void firstAndLastRank() {
        Check.same("of one", Sets.of(5).keyAt(0), 5);
        PerfectPew open = Sets.open();
        Check.same("the first of six", open.keyAt(0), 100);
        Check.same("the last of six", open.keyAt(5), 135);
        Check.same("the last of 120", Sets.fullOfKeys().keyAt(119), 2117);
        Check.same("the last of six when built", Sets.six().keyAt(5), 135);
    }

    private static void keyAtRefusesRanks() {
        Boundary.refusedOutside("rank", 6, PerfectPew::keyAt);
        Boundary.refused("rank 6, open", Boundary.INDEX, Sets::open, pew -> pew.keyAt(6));
        Boundary.refused("rank 0 of none", Boundary.INDEX, PerfectPew::new, pew -> pew.keyAt(0));
        Boundary.refused("rank 120 of 120", Boundary.INDEX, Sets::fullOfKeys,
                pew -> pew.keyAt(120));
    }
}
