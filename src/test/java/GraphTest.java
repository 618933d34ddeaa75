/** Promises 22 to 24: byGraph, graphSeed, valueOf. */
public final class GraphTest {
    private static final int[] WRONG_KEYS = {-1, 100000, Integer.MIN_VALUE, Integer.MAX_VALUE};
    private static final int[] SIX_VALUES = {
        0, 0, 0, 0, 0, 4, 0, 0, 0, 0, 3, 1, 0, 0, 2, 0, 0, 5};

    public static void main(String[] args) {
        byGraph();
        byGraphOfStrangers();
        byGraphRefuses();
        graphSeed();
        valueOf();
        valuesOfAnotherBuild();
        Check.end("GraphTest");
    }

    private static void byGraph() {
        PerfectPew six = Sets.six();
        for (int rank = 0; rank < 6; rank++) {
            Check.same("byGraph of rank " + rank, six.byGraph(100 + 7 * rank), rank);
        }
        PerfectPew full = Sets.full();
        for (int rank = 0; rank < 120; rank++) {
            Check.same("byGraph of rank " + rank, full.byGraph(full.keyAt(rank)), rank);
        }
        PerfectPew one = Sets.of(5);
        one.build(1, 1);
        Check.same("byGraph of one key", one.byGraph(5), 0);
    }

    private static void byGraphOfStrangers() {
        PerfectPew six = Sets.six();
        // With graph seed 0 and 18 vertices: 97 leads to 10 and 17, 63 to 5 and 17, 5 to 14 and 5.
        Check.same("byGraph(97)", six.byGraph(97), (3 + 5) % 6);
        Check.same("byGraph(63)", six.byGraph(63), (4 + 5) % 6);
        Check.same("byGraph(5)", six.byGraph(5), (2 + 4) % 6);
        Check.same("byGraph(196), twice vertex 5", six.byGraph(196), (4 + 4) % 6);
        Check.same("byGraph(395), twice vertex 10", six.byGraph(395), (3 + 3) % 6);
        Check.same("byGraph(0)", six.byGraph(0), 0);
        Check.same("byGraph(99999)", six.byGraph(99999), 0);
    }

    private static void byGraphRefuses() {
        PerfectPew pew = Sets.line(100, 7, 6);
        Check.refusesState("byGraph ahead of build", () -> pew.byGraph(100));
        Check.refusesArgument("byGraph(-1) ahead of build", () -> pew.byGraph(-1));
        pew.build(2, 8);
        for (int key : WRONG_KEYS) {
            Check.refusesArgument("byGraph(" + key + ")", () -> pew.byGraph(key));
        }
        pew.reopen();
        Check.refusesState("byGraph once reopened", () -> pew.byGraph(100));
    }

    private static void graphSeed() {
        PerfectPew pew = Sets.line(414, 5, 13);
        Check.refusesState("graphSeed ahead of build", pew::graphSeed);
        pew.build(5, 8);
        Check.same("graphSeed of 13", pew.graphSeed(), 7);
        Check.same("graphSeed of six", Sets.six().graphSeed(), 0);
        PerfectPew one = Sets.of(5);
        one.build(1, 1);
        // With seed 0 the edge of 5 would join a vertex with itself.
        Check.same("graphSeed of one key", one.graphSeed(), 1);
        PerfectPew last = Sets.of(Sets.LAST_GRAPH_SEED);
        last.build(2, 8);
        Check.same("the greatest graph seed", last.graphSeed(), 199);
    }

    private static void valueOf() {
        PerfectPew pew = Sets.line(100, 7, 6);
        Check.refusesState("valueOf ahead of build", () -> pew.valueOf(0));
        Check.refusesState("valueOf(-1) ahead of build", () -> pew.valueOf(-1));
        pew.build(2, 8);
        Check.same("values of six", Sets.values(pew), SIX_VALUES);
        for (int vertex : new int[] {-1, 18, 360, Integer.MIN_VALUE, Integer.MAX_VALUE}) {
            Check.refusesIndex("valueOf(" + vertex + ")", () -> pew.valueOf(vertex));
        }
        PerfectPew full = Sets.full();
        Check.same("value of vertex 25 of 360", full.valueOf(25), 29);
        Check.same("value of vertex 359 of 360", full.valueOf(359), 0);
        Check.refusesIndex("valueOf(360)", () -> full.valueOf(360));
    }

    private static void valuesOfAnotherBuild() {
        PerfectPew pew = Sets.full();
        pew.reopen();
        for (int left = 120; left > 0; left--) {
            pew.remove(pew.keyAt(left - 1));
        }
        pew.addLine(100, 7, 6);
        pew.build(2, 8);
        Check.same("values of six after those of 120", Sets.values(pew), SIX_VALUES);
    }
}
