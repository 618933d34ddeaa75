/** The boundary cases that promises 22 to 24 name. */
final class GraphBoundaries {
    private static final String UNBUILT =
            "Throws `IllegalStateException` if the tables are not built";

    private GraphBoundaries() {
    }

    static void test() {
        Boundary.test("Promise 22", "- `key`: 0 to 99999",
                GraphBoundaries::byGraphOfLowestAndHighest);
        Boundary.test("Promise 22", "Returns 0 to keys() - 1.", GraphBoundaries::sumsGoRound);
        Boundary.test("Promise 22", "Throws `IllegalArgumentException` if key is out of range",
                GraphBoundaries::byGraphRefusesKeys);
        Boundary.test("Promise 22", UNBUILT, GraphBoundaries::byGraphUnbuilt);
        Boundary.test("Promise 23", "Returns 0 to 199.",
                GraphBoundaries::leastAndGreatestGraphSeed);
        Boundary.test("Promise 23", UNBUILT,
                () -> Boundary.refusedUnbuilt("graphSeed", PerfectPew::graphSeed));
        Boundary.test("Promise 24", "- `vertex`: 0 to 3 * keys() - 1",
                GraphBoundaries::firstAndLastVertex);
        Boundary.test("Promise 24", "Returns 0 to keys() - 1.",
                GraphBoundaries::leastAndGreatestValue);
        Boundary.test("Promise 24", UNBUILT, GraphBoundaries::valueOfUnbuilt);
        Boundary.test("Promise 24", "Throws `IndexOutOfBoundsException` if there is no such vertex",
                GraphBoundaries::valueOfRefusesVertices);
    }

    private static PerfectPew oneKey() {
        return Sets.built(Sets.of(5), 1, 1);
    }

    private static void byGraphOfLowestAndHighest() {
        PerfectPew two = Sets.built(Sets.of(0, 99999), 1, 8);
        Check.same("byGraph(0), its rank", two.byGraph(0), 0);
        Check.same("byGraph(99999), its rank", two.byGraph(99999), 1);
        PerfectPew six = Sets.six();
        Check.same("byGraph(0) of a stranger, twice vertex 7", six.byGraph(0), 0);
        Check.same("byGraph(99999) of a stranger", six.byGraph(99999), 0);
    }

    private static void sumsGoRound() {
        PerfectPew one = oneKey();
        Check.same("of one key", one.byGraph(5), 0);
        Check.same("of a stranger to one key", one.byGraph(6), 0);
        PerfectPew six = Sets.six();
        Check.same("0 and 5", six.byGraph(29), 5);
        Check.same("2 and 4", six.byGraph(5), 0);
        Check.same("3 and 4", six.byGraph(213), 1);
        Check.same("4 and 5", six.byGraph(63), 3);
        Check.same("twice 4", six.byGraph(179), 2);
        PerfectPew full = Sets.full();
        Check.same("rank 0 of 120", full.byGraph(full.keyAt(0)), 0);
        Check.same("rank 119 of 120", full.byGraph(full.keyAt(119)), 119);
    }

    private static void byGraphRefusesKeys() {
        for (int key : Boundary.WRONG_KEYS) {
            Boundary.refusedAlways("byGraph(" + key + ")", pew -> pew.byGraph(key));
        }
    }

    private static void byGraphUnbuilt() {
        Boundary.refusedUnbuilt("byGraph(0)", pew -> pew.byGraph(0));
        Boundary.refusedUnbuilt("byGraph(100)", pew -> pew.byGraph(100));
        Boundary.refusedUnbuilt("byGraph(99999)", pew -> pew.byGraph(99999));
    }

    private static void leastAndGreatestGraphSeed() {
        Check.same("the least", Sets.six().graphSeed(), 0);
        Check.same("the greatest", Sets.built(Sets.of(Sets.LAST_GRAPH_SEED), 2, 8).graphSeed(),
                199);
    }

    private static void firstAndLastVertex() {
        PerfectPew two = Sets.built(Sets.of(0, 19), 2, 8);
        Check.same("0 of 6", two.valueOf(0), 0);
        Check.same("5 of 6", two.valueOf(5), 1);
        PerfectPew six = Sets.six();
        Check.same("0 of 18", six.valueOf(0), 0);
        Check.same("17 of 18", six.valueOf(17), 5);
        Check.same("359 of 360", Sets.full().valueOf(359), 0);
    }

    private static void leastAndGreatestValue() {
        PerfectPew one = oneKey();
        for (int vertex = 0; vertex < 3; vertex++) {
            Check.same("of one key", one.valueOf(vertex), 0);
        }
        Check.same("119 with 120 keys", Sets.widest().valueOf(161), 119);
        for (int value : Sets.values(Sets.full())) {
            Check.same("0 to 119", value >= 0 && value < 120, true);
        }
    }

    private static void valueOfUnbuilt() {
        for (int vertex : new int[] {0, 17, 18, 360, -1, Integer.MIN_VALUE, Integer.MAX_VALUE}) {
            Boundary.refusedUnbuilt("valueOf(" + vertex + ")", pew -> pew.valueOf(vertex));
        }
    }

    private static void valueOfRefusesVertices() {
        Boundary.refusedOutside("valueOf", 18, PerfectPew::valueOf);
        Boundary.refused("valueOf(3) of one key", Boundary.INDEX, GraphBoundaries::oneKey,
                pew -> pew.valueOf(3));
        Boundary.refused("valueOf(360) of 120", Boundary.INDEX, Sets::full,
                pew -> pew.valueOf(360));
        Boundary.refused("valueOf(15), once there are five", Boundary.INDEX,
                LookupBoundaries::oneLess, pew -> pew.valueOf(15));
    }
}
