/** The boundary cases that promises 8 to 10 name. */
final class BuildingBoundaries {
    private BuildingBoundaries() {
    }

    static void test() {
        Boundary.test("Promise 8", "- `load`: 1 to 6", BuildingBoundaries::leastAndGreatestLoad);
        Boundary.test("Promise 8", "- `bits`: 1 to 12: the bits of fingerprints",
                BuildingBoundaries::fewestAndMostBits);
        Boundary.test("Promise 8",
                "Throws `IllegalArgumentException` if load or bits is out of range",
                BuildingBoundaries::buildRefusesArguments);
        Boundary.test("Promise 8", "Throws `IllegalStateException` if the tables are built, there"
                + " are no keys, or all seeds fail, for displacing or for the graph",
                BuildingBoundaries::buildAtTheWrongTime);
        Boundary.test("Promise 9", "Lets the tables be gone, so that keys can be changed again.",
                BuildingBoundaries::reopened);
        Boundary.test("Promise 9", "Throws `IllegalStateException` if they are not built",
                BuildingBoundaries::reopenAtTheWrongTime);
        Boundary.test("Promise 10", "Tells whether the tables are built.",
                BuildingBoundaries::isBuilt);
    }

    private static void leastAndGreatestLoad() {
        Check.same("load 1", Sets.open().build(1, 8), 2);
        Check.same("load 6", Sets.open().build(6, 8), 4);
        Check.same("load 1 with one key", Sets.of(5).build(1, 8), 0);
        Check.same("load 6 with one key", Sets.of(5).build(6, 8), 0);
        Check.same("load 1 with 120 keys", Sets.widest().seed(), 20);
    }

    private static void fewestAndMostBits() {
        PerfectPew fewest = Sets.built(Sets.open(), 2, 1);
        Check.same("fingerprints of 1 bit", Sets.fingerprints(fewest),
                new int[] {1, 0, 0, 0, 1, 0});
        PerfectPew most = Sets.built(Sets.open(), 2, 12);
        Check.same("fingerprints of 12 bits", Sets.fingerprints(most),
                new int[] {315, 3876, 1350, 1806, 2841, 3376});
    }

    private static void buildRefusesArguments() {
        for (int load : new int[] {0, -1, 7, Integer.MIN_VALUE, Integer.MAX_VALUE}) {
            Boundary.refusedAlways("load " + load, pew -> pew.build(load, 8));
            Boundary.refusedAlways("load and bits " + load, pew -> pew.build(load, -load));
        }
        for (int bits : new int[] {0, -1, 13, 32, 33, Integer.MIN_VALUE, Integer.MAX_VALUE}) {
            Boundary.refusedAlways("bits " + bits, pew -> pew.build(2, bits));
        }
    }

    private static void buildAtTheWrongTime() {
        Boundary.refused("build when built", Boundary.STATE, Sets::six, pew -> pew.build(2, 8));
        Boundary.refused("another build when built", Boundary.STATE, Sets::six,
                pew -> pew.build(6, 12));
        Boundary.refused("build without keys", Boundary.STATE, PerfectPew::new,
                pew -> pew.build(1, 1));
        Boundary.refused("build once the last key is removed", Boundary.STATE,
                BuildingBoundaries::emptied, pew -> pew.build(1, 1));
        Boundary.refused("all seeds fail for displacing", Boundary.STATE,
                () -> Sets.line(135, 8, 17), pew -> pew.build(4, 8));
        Boundary.refused("all seeds fail for the graph", Boundary.STATE,
                () -> Sets.of(Sets.NO_GRAPH_SEED), pew -> pew.build(2, 8));
        Boundary.refused("all seeds fail for displacing 120 keys", Boundary.STATE,
                Sets::fullOfKeys, pew -> pew.build(6, 12));
        PerfectPew pew = Sets.failed();
        Check.same("not built then", pew.isBuilt(), false);
        Check.same("a key can be removed then", pew.remove(135), 16);
        Check.same("and added again", pew.add(135), 17);
        Check.same("and another load does", pew.build(1, 8) >= 0, true);
    }

    private static PerfectPew emptied() {
        PerfectPew pew = Sets.of(5);
        pew.remove(5);
        return pew;
    }

    private static void reopened() {
        PerfectPew pew = Sets.full();
        pew.reopen();
        Check.same("isBuilt()", pew.isBuilt(), false);
        for (int left = 120; left > 0; left--) {
            pew.remove(pew.keyAt(left / 2));
        }
        Check.same("no key is left", pew.keys(), 0);
        pew.addLine(100, 7, 6);
        pew.build(2, 8);
        Check.same("what stands, as if it had been the first build", Snapshot.of(pew),
                Snapshot.of(Sets.six()));
        PerfectPew grown = Sets.of(5);
        grown.build(1, 1);
        grown.reopen();
        grown.remove(5);
        grown.addLine(100, 7, 6);
        grown.build(2, 8);
        Check.same("what stands after a smaller build", Snapshot.of(grown),
                Snapshot.of(Sets.six()));
    }

    private static void reopenAtTheWrongTime() {
        Boundary.refusedUnbuilt("reopen", Boundary::reopen);
        PerfectPew pew = Sets.six();
        Check.same("the first time", Check.outcome(() -> Boundary.reopen(pew)), "reopened");
        Check.refusesState("the second time", () -> Boundary.reopen(pew));
    }

    private static void isBuilt() {
        Check.same("of a new object", new PerfectPew().isBuilt(), false);
        Check.same("ahead of build", Sets.open().isBuilt(), false);
        Check.same("after a build that failed", Sets.failed().isBuilt(), false);
        Check.same("after build", Sets.six().isBuilt(), true);
        Check.same("once reopened", Sets.reopened().isBuilt(), false);
        Check.same("with 120 keys", Sets.fullOfKeys().isBuilt(), false);
        Check.same("with 120 keys, built", Sets.full().isBuilt(), true);
    }
}
