/** Promises 8 to 10: build, reopen, isBuilt. */
public final class BuildingTest {
    public static void main(String[] args) {
        build();
        buildRefusesArguments();
        buildRefusesState();
        seedsOfDisplacing();
        seedsOfTheGraph();
        failedBuildChangesNothing();
        reopen();
        isBuilt();
        Check.end("BuildingTest");
    }

    private static void build() {
        Check.same("build of six", Sets.line(100, 7, 6).build(2, 8), 1);
        Check.same("build of one", Sets.of(5).build(1, 1), 0);
        Check.same("build of two", Sets.of(5, 6).build(6, 12), 0);
        Check.same("seed after build", Sets.full().seed(), 19);
        PerfectPew other = Sets.of(135, 121, 100, 128, 107, 114);
        Check.same("the order of adding tells nothing", other.build(2, 8), 1);
        Check.same("nor in the numbers", Sets.numbered(other), Sets.numbered(Sets.six()));
    }

    private static void buildRefusesArguments() {
        PerfectPew pew = Sets.of(5);
        for (int load : new int[] {0, -1, 7, Integer.MIN_VALUE, Integer.MAX_VALUE}) {
            Check.refusesArgument("load " + load, () -> pew.build(load, 8));
        }
        for (int bits : new int[] {0, -1, 13, 32, Integer.MIN_VALUE, Integer.MAX_VALUE}) {
            Check.refusesArgument("bits " + bits, () -> pew.build(2, bits));
        }
        PerfectPew empty = new PerfectPew();
        Check.refusesArgument("a wrong load without keys", () -> empty.build(0, 8));
        pew.build(1, 1);
        Check.refusesArgument("a wrong load when built", () -> pew.build(7, 1));
        Check.refusesArgument("wrong bits when built", () -> pew.build(1, 13));
    }

    private static void buildRefusesState() {
        PerfectPew pew = new PerfectPew();
        Check.refusesState("build without keys", () -> pew.build(1, 1));
        pew.add(5);
        pew.build(1, 1);
        Check.refusesState("build when built", () -> pew.build(1, 1));
        Check.refusesState("another build when built", () -> pew.build(6, 12));
        Check.same("the first build's fingerprint stays", pew.fingerprint(0), 1);
    }

    private static void seedsOfDisplacing() {
        PerfectPew last = Sets.line(414, 5, 13);
        Check.same("a build with the last seed", last.build(5, 8), 39);
        Check.same("seed() of it", last.seed(), 39);
        PerfectPew none = Sets.line(135, 8, 17);
        Check.refusesState("a build that seed 40 alone would do", () -> none.build(4, 8));
        Check.same("it builds with another load", none.build(1, 8) >= 0, true);
    }

    private static void seedsOfTheGraph() {
        PerfectPew last = Sets.of(Sets.LAST_GRAPH_SEED);
        Check.same("displacing seed with the last graph seed", last.build(2, 8), 2);
        Check.same("the last graph seed", last.graphSeed(), 199);
        PerfectPew none = Sets.of(Sets.NO_GRAPH_SEED);
        Check.refusesState("a build that graph seed 200 alone would do", () -> none.build(2, 8));
        Check.same("not built", none.isBuilt(), false);
    }

    private static void failedBuildChangesNothing() {
        PerfectPew pew = Sets.line(135, 8, 17);
        Check.refusesState("all seeds fail", () -> pew.build(4, 8));
        Check.same("isBuilt()", pew.isBuilt(), false);
        Check.same("keys()", pew.keys(), 17);
        Check.refusesState("seed()", pew::seed);
        Check.refusesState("reopen()", () -> reopened(pew));
        Check.same("keys can be changed", pew.remove(135), 16);
        PerfectPew open = Sets.of(5);
        Check.refusesArgument("build(0, 1)", () -> open.build(0, 1));
        Check.same("not built", open.isBuilt(), false);
    }

    private static Object reopened(PerfectPew pew) {
        pew.reopen();
        return "reopened";
    }

    private static void reopen() {
        PerfectPew pew = new PerfectPew();
        Check.refusesState("reopen of a new object", () -> reopened(pew));
        pew.addLine(100, 7, 6);
        Check.refusesState("reopen ahead of build", () -> reopened(pew));
        pew.build(2, 8);
        Check.same("reopen", Check.outcome(() -> reopened(pew)), "reopened");
        Check.refusesState("reopen again", () -> reopened(pew));
        Check.refusesState("no seed once reopened", pew::seed);
        Check.refusesState("no number once reopened", () -> pew.number(100));
        Check.refusesState("no value once reopened", () -> pew.valueOf(0));
        Check.same("the keys are there", pew.keys(), 6);
        Check.same("add once reopened", pew.add(3), 7);
        Check.same("remove once reopened", pew.remove(3), 6);
        Check.same("addLine once reopened", pew.addLine(100, 7, 6), 6);
        Check.same("built again", pew.build(2, 8), 1);
        Check.same("as before", Sets.numbered(pew), Sets.numbered(Sets.six()));
        pew.reopen();
        pew.build(2, 12);
        Check.same("other fingerprints", pew.fingerprint(0) != 59, true);
    }

    private static void isBuilt() {
        PerfectPew pew = Sets.of(5);
        Check.same("ahead of build", pew.isBuilt(), false);
        pew.build(1, 1);
        Check.same("after build", pew.isBuilt(), true);
        Check.refusesState("build when built", () -> pew.build(1, 1));
        Check.same("after a build refused", pew.isBuilt(), true);
        pew.reopen();
        Check.same("after reopen", pew.isBuilt(), false);
    }
}
