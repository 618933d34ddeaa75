/** The boundary cases that the document names in its terms, ahead of the promises. */
final class TermsBoundaries {
    private static final String TERMS = "Terms";
    private static final int LONGEST_USE = 512;

    private TermsBoundaries() {
    }

    static void test() {
        Boundary.test("What it is", "An object is used for at most 512 calls after it has been made;",
                TermsBoundaries::the512thCall);
        Boundary.test(TERMS, "While they are built the keys cannot be changed.",
                TermsBoundaries::keysOfBuiltTables);
        Boundary.test(TERMS, "Keys are 0 to 99999, at most 120 at a time.",
                TermsBoundaries::lowestHighestAndMostKeys);
        Boundary.test(TERMS, "A key has a rank: how many of the keys that are there are below it.",
                TermsBoundaries::lowestAndHighestRank);
        hashing();
        displacing();
        packing();
        graph();
        Boundary.test(TERMS, "A call that throws an exception changes nothing.",
                TermsBoundaries::refusedCallsChangeNothing);
        Boundary.test(TERMS,
                "If several apply, the one that the throws clause names first is thrown.",
                TermsBoundaries::severalExceptionsApply);
        Boundary.test(TERMS, "The constants: `NONE = -1`: There is none.",
                () -> Check.same("NONE", PerfectPew.NONE, -1));
        Boundary.test(TERMS, "all that follows throws IllegalStateException"
                + " if the tables are not built.", TermsBoundaries::lookingUpUnbuilt);
    }

    private static void the512thCall() {
        PerfectPew pew = Sets.open();
        for (int made = 1; made < LONGEST_USE - 2; made++) {
            pew.has(100 + made % 40);
        }
        Check.same("call 511, build", pew.build(2, 8), 1);
        Check.same("call 512, number", pew.number(100), 5);
    }

    private static void keysOfBuiltTables() {
        Boundary.refused("add when built", Boundary.STATE, Sets::six, pew -> pew.add(3));
        Boundary.refused("addLine when built", Boundary.STATE, Sets::six,
                pew -> pew.addLine(3, 1, 2));
        Boundary.refused("a line of keys that are there, when built", Boundary.STATE, Sets::six,
                pew -> pew.addLine(100, 7, 6));
        Boundary.refused("remove when built", Boundary.STATE, Sets::six, pew -> pew.remove(100));
    }

    private static void lowestHighestAndMostKeys() {
        PerfectPew pew = Sets.of(0, 99999);
        Check.same("the lowest and the highest", Sets.ranked(pew), new int[] {0, 99999});
        Check.same("addLine up to 118", pew.addLine(1000, 1, 40) + pew.addLine(2000, 1, 40)
                + pew.addLine(3000, 1, 36), 42 + 82 + 118);
        Check.same("a 119th", pew.add(1), 119);
        Check.same("a 120th", pew.add(99998), 120);
        Check.refusesState("a 121st", () -> pew.add(2));
        Check.refusesState("a 121st by a line", () -> pew.addLine(2, 1, 1));
        Check.refusesArgument("a key below the lowest", () -> pew.has(-1));
        Check.refusesArgument("a key above the highest", () -> pew.has(100000));
        Check.same("one less", pew.remove(0), 119);
        Check.same("and a 120th again", pew.add(0), 120);
    }

    private static void lowestAndHighestRank() {
        PerfectPew pew = Sets.fullOfKeys();
        Check.same("the key with none below it", pew.keyAt(0), 0);
        Check.same("the key with 119 below it", pew.keyAt(119), 2117);
    }

    // ---- hashes, buckets and fingerprints

    private static void hashing() {
        Boundary.test(TERMS, "(which can be above the range of an int)",
                TermsBoundaries::hashesAboveInt);
        Boundary.test(TERMS, "With n keys and a load there are as many buckets as n divided by the"
                + " load tells, rounded up.", TermsBoundaries::bucketsRoundedUp);
        Boundary.test(TERMS, "The bucket of a key is the remainder of hash 0 by the number of"
                + " buckets.", TermsBoundaries::bucketsGoRound);
        Boundary.test(TERMS, "the number (hash 1 + d * step) modulo n, where the step is 1 more"
                + " than the remainder of hash 2 by n - 1, or 1 if n is 1;",
                TermsBoundaries::stepsOfFewKeys);
        Boundary.test(TERMS, "The fingerprint of a key, with b bits, is the remainder of hash 3,"
                + " with the seed that is used, by 2 to the power of b.",
                TermsBoundaries::fewestAndMostBits);
    }

    private static void hashesAboveInt() {
        // With seed 0 hash 3 is the remainder of 99999 * 611953 + 10007 = 61194698054: 514472.
        PerfectPew one = Sets.built(Sets.of(99999), 1, 12);
        Check.same("12 bits of hash 3 of 99999", one.fingerprint(0), 514472 % 4096);
        // With seed 19 hash 0 leads to bucket 48, displaced by 10; hash 1 is 58168, hash 2 185506.
        PerfectPew full = Sets.full();
        Check.same("hash 1 of 99999", full.number(99999), (58168 + 10 * (1 + 185506 % 119)) % 120);
        PerfectPew two = Sets.built(Sets.of(0, 99999), 2, 12);
        Check.same("hashes 4 and 5 of 99999", two.byGraph(99999), 1);
        Check.same("values of 0 and 99999", Sets.values(two), new int[] {0, 1, 0, 0, 0, 0});
    }

    private static void bucketsRoundedUp() {
        int[] due = {6, 3, 2, 2, 2, 1};
        for (int load = 1; load <= 6; load++) {
            Check.same("buckets of 6, load " + load, Sets.built(Sets.open(), load, 8).buckets(),
                    due[load - 1]);
            Check.same("buckets of 1, load " + load, Sets.built(Sets.of(5), load, 8).buckets(), 1);
        }
        Check.same("of 7, load 6", Sets.built(Sets.line(100, 7, 7), 6, 8).buckets(), 2);
        Check.same("of 7, load 3", Sets.built(Sets.line(100, 7, 7), 3, 8).buckets(), 3);
        Check.same("of 13, load 6", Sets.built(Sets.line(414, 5, 13), 6, 8).buckets(), 3);
        Check.same("of 120, load 1", Sets.widest().buckets(), 120);
    }

    private static void bucketsGoRound() {
        // With seed 1 hash 0 is 5227, 75038, 144849, 214660, 284471, 354282: 1, 2, 0, 1, 2, 0.
        PerfectPew six = Sets.six();
        Check.same("sizes", Sets.bucketSizes(six), new int[] {2, 2, 2});
        PerfectPew single = Sets.built(Sets.open(), 6, 8);
        Check.same("all in a single bucket", single.inBucket(0), 6);
        Check.refusesIndex("no other one", () -> single.inBucket(1));
    }

    private static void stepsOfFewKeys() {
        PerfectPew one = Sets.built(Sets.of(5), 1, 1);
        Check.same("one key", one.number(5), 0);
        Check.same("a stranger to one key", one.number(99999), 0);
        // Two keys have the step 1: with seed 0 hash 1 of 5 is 523746, of 6 it is 628475.
        PerfectPew two = Sets.built(Sets.of(5, 6), 6, 12);
        Check.same("numbers of two keys", Sets.numbered(two), new int[] {5, 6});
        PerfectPew six = Sets.six();
        // With seed 1 hash 1 of 107 is 221556, hash 2 is 381703; bucket 2 is displaced by 3.
        Check.same("six keys", six.number(107), (221556 + 3 * (1 + 381703 % 5)) % 6);
    }

    private static void fewestAndMostBits() {
        for (int bits = 1; bits <= 12; bits++) {
            PerfectPew ones = Sets.built(Sets.of(32344), 1, bits);
            Check.same(bits + " bits, all 1", ones.fingerprint(0), (1 << bits) - 1);
            PerfectPew zeros = Sets.built(Sets.of(1773), 1, bits);
            Check.same(bits + " bits, all 0", zeros.fingerprint(0), 0);
        }
    }

    // ---- displacing

    private static void displacing() {
        Boundary.test(TERMS, "The buckets are taken by falling numbers of keys, those with the same"
                + " number of keys by rising numbers of the buckets.",
                TermsBoundaries::orderOfBuckets);
        Boundary.test(TERMS, "Each gets the least displacement, from 0 to 511,",
                TermsBoundaries::leastAndGreatestDisplacement);
        Boundary.test(TERMS, "If there is none, the seed fails.",
                TermsBoundaries::noDisplacement);
        Boundary.test(TERMS, "A bucket without keys gets the displacement 0.",
                TermsBoundaries::bucketsWithoutKeys);
        Boundary.test(TERMS, "The seed that is used is the least one, from 0 to 39, that does not"
                + " fail.", TermsBoundaries::firstAndLastSeed);
    }

    private static void orderOfBuckets() {
        // Taken first, bucket 0 with its one key would have the displacement 0.
        PerfectPew three = Sets.built(Sets.line(4, 3, 3), 2, 8);
        Check.same("the sizes", Sets.bucketSizes(three), new int[] {1, 2});
        Check.same("the larger bucket first", Sets.displacements(three), new int[] {1, 0});
        // Taken from the last one down, the displacements would be 1, 2, 0, 0.
        PerfectPew four = Sets.built(Sets.line(1, 3, 4), 1, 8);
        Check.same("sizes alike", Sets.bucketSizes(four), new int[] {1, 1, 1, 1});
        Check.same("the lower bucket first", Sets.displacements(four), new int[] {0, 0, 1, 2});
    }

    private static void leastAndGreatestDisplacement() {
        Check.same("none is displaced", Sets.displacements(Sets.built(Sets.line(2142, 1, 6), 2, 8)),
                new int[] {0, 0, 0});
        Check.same("up to n - 1", Sets.displacements(Sets.built(Sets.line(258, 28, 6), 2, 8)),
                new int[] {1, 0, 5});
        Check.same("up to 119 with 120 keys", Sets.widest().displacement(119), 119);
    }

    private static void noDisplacement() {
        // With seed 0 hash 1 of 0 is 101, of 19 it is 989949: both odd, and both steps are 1.
        PerfectPew two = Sets.of(0, 19);
        Check.same("two keys that stay together", two.build(2, 8), 1);
        Check.same("seed()", two.seed(), 1);
    }

    private static void bucketsWithoutKeys() {
        PerfectPew last = Sets.built(Sets.line(897, 32, 3), 1, 8);
        Check.same("sizes, the last 0", Sets.bucketSizes(last), new int[] {2, 1, 0});
        Check.same("displacements", Sets.displacements(last), new int[] {0, 1, 0});
        PerfectPew between = Sets.built(Sets.line(2500, 24, 4), 1, 8);
        Check.same("sizes, 0 between", Sets.bucketSizes(between), new int[] {3, 0, 0, 1});
        Check.same("displacements", Sets.displacements(between), new int[] {0, 0, 0, 2});
        PerfectPew first = Sets.built(Sets.of(0, 99999), 1, 8);
        Check.same("sizes, the first 0", Sets.bucketSizes(first), new int[] {0, 2});
        Check.same("displacements", Sets.displacements(first), new int[] {0, 0});
    }

    private static void firstAndLastSeed() {
        Check.same("seed 0", Sets.of(5, 6).build(6, 12), 0);
        Check.same("seed 39, all below fail", Sets.line(414, 5, 13).build(5, 8), 39);
        PerfectPew none = Sets.line(135, 8, 17);
        Check.refusesState("40 would be the first", () -> none.build(4, 8));
    }

    // ---- packing

    private static void packing() {
        Boundary.test(TERMS, "The width is how many bits the greatest displacement of all buckets"
                + " has (1 for 0 and 1).", TermsBoundaries::widths);
        Boundary.test(TERMS, "one can go on from a word into the next one.",
                TermsBoundaries::fromAWordIntoTheNext);
        Boundary.test(TERMS, "The bits behind the last one are 0.",
                TermsBoundaries::bitsBehindTheLast);
    }

    private static void width(int greatest, PerfectPew pew, int load, int due) {
        pew.build(load, 8);
        int[] row = Sets.displacements(pew);
        int most = 0;
        for (int displacement : row) {
            most = Math.max(most, displacement);
        }
        Check.same("the greatest displacement", most, greatest);
        Check.same("width for " + greatest, pew.width(), due);
    }

    private static void widths() {
        width(0, Sets.line(2142, 1, 6), 2, 1);
        width(1, Sets.line(1171, 22, 4), 2, 1);
        width(2, Sets.line(2743, 20, 6), 1, 2);
        width(3, Sets.line(2295, 12, 6), 1, 2);
        width(4, Sets.line(559, 33, 6), 2, 3);
        width(7, Sets.line(1556, 28, 16), 2, 3);
        width(8, Sets.line(2081, 3, 11), 1, 4);
        width(15, Sets.line(1822, 33, 36), 1, 4);
        width(16, Sets.line(393, 5, 39), 1, 5);
        width(31, Sets.line(2674, 4, 39), 1, 5);
        width(32, Sets.line(2381, 12, 33), 1, 6);
        width(63, Sets.lines(9865, 723, 7779, 142, 45473, 157), 1, 6);
        width(64, Sets.lines(26293, 20, 20241, 270, 23364, 832), 1, 7);
    }

    private static void fromAWordIntoTheNext() {
        // Bucket 21 of 22 has 5 in three bits: one at the top of word 0, two in word 1.
        PerfectPew three = Sets.built(Sets.line(2679, 17, 22), 1, 8);
        Check.same("the last of 22", three.displacement(21), 5);
        Check.same("word(0)", three.word(0), 0x8000800001000000L);
        Check.same("word(1)", three.word(1), 2L);
        // Bucket 12 of 13 has 23 in five bits: four at the top of word 0, one in word 1.
        PerfectPew five = Sets.built(Sets.line(572, 23, 26), 2, 8);
        Check.same("the last of 13", five.displacement(12), 23);
        Check.same("word(0)", five.word(0), 0x7290e11840018401L);
        Check.same("word(1)", five.word(1), 1L);
        // 16 of 32 buckets, each of four bits, fill word 0: none goes on.
        PerfectPew even = Sets.built(Sets.line(1906, 18, 32), 1, 8);
        Check.same("word(0) of two full ones", even.word(0), 0x6000000000100010L);
        Check.same("word(1) of two full ones", even.word(1), 0xd000000000000200L);
    }

    private static void bitsBehindTheLast() {
        PerfectPew one = Sets.built(Sets.line(1171, 22, 4), 2, 8);
        Check.same("2 bits", one.word(0), 3L);
        PerfectPew most = Sets.built(Sets.line(903, 12, 21), 1, 8);
        Check.same("63 bits", most.word(0), 0x5000400000040000L);
        PerfectPew pew = Sets.built(Sets.line(2679, 17, 22), 1, 8);
        pew.reopen();
        for (int rank = 21; rank > 0; rank--) {
            pew.remove(pew.keyAt(rank));
        }
        pew.build(1, 8);
        Check.same("nothing is left of an earlier build", pew.word(0), 0L);
    }

    // ---- the graph

    private static void graph() {
        Boundary.test(TERMS, "It has 3n vertices, numbered from 0 on,",
                TermsBoundaries::lowestAndHighestVertex);
        Boundary.test(TERMS, "The seed fails if the graph has a circle: an edge that joins a vertex"
                + " with itself, two edges between the same vertices, or a way that goes round.",
                TermsBoundaries::circles);
        Boundary.test(TERMS, "The seed that is used is the least one, from 0 to 199, that does not"
                + " fail.", TermsBoundaries::firstAndLastGraphSeed);
        Boundary.test(TERMS, "Each vertex has a value, 0 to n - 1: that of the lowest vertex of each"
                + " connected part is 0, and for each key the values of its two vertices, together,"
                + " modulo n are its rank.", TermsBoundaries::lowestAndHighestValue);
    }

    private static void lowestAndHighestVertex() {
        PerfectPew one = Sets.built(Sets.of(5), 1, 1);
        Check.same("values of one key", Sets.values(one), new int[] {0, 0, 0});
        Check.refusesIndex("a vertex 3n", () -> one.valueOf(3));
        PerfectPew full = Sets.full();
        Check.same("the last of 360", full.valueOf(359), 0);
        Check.refusesIndex("a vertex 360", () -> full.valueOf(360));
    }

    private static int graphSeed(int... keys) {
        return Sets.built(Sets.of(keys), 1, 8).graphSeed();
    }

    private static void circles() {
        // In the comments: the vertices that the keys join with seed 0.
        Check.same("2-2 alone", graphSeed(5), 1);
        Check.same("1-1 beside 2-5", graphSeed(0, 5), 1);
        Check.same("1-3 twice", graphSeed(6, 23), 1);
        Check.same("0-1 and 1-0", graphSeed(7, 28), 1);
        Check.same("3-0, 3-8, 0-8", graphSeed(1, 10, 29), 1);
        Check.same("3-0, 3-8, 8-0", graphSeed(1, 10, 35), 1);
        Check.same("no circle", Sets.six().graphSeed(), 0);
    }

    private static void firstAndLastGraphSeed() {
        Check.same("seed 0", Sets.six().graphSeed(), 0);
        Check.same("seed 199, all below fail",
                Sets.built(Sets.of(Sets.LAST_GRAPH_SEED), 2, 8).graphSeed(), 199);
        PerfectPew none = Sets.of(Sets.NO_GRAPH_SEED);
        Check.refusesState("200 would be the first", () -> none.build(2, 8));
    }

    private static void lowestAndHighestValue() {
        // The keys join 7-6, 11-0, 10-17, 14-11, 0-5 and 17-4; all other vertices are alone.
        PerfectPew six = Sets.six();
        Check.same("the lowest of 6-7", six.valueOf(6), 0);
        Check.same("the lowest of 0-5-11-14", six.valueOf(0), 0);
        Check.same("the lowest of 4-10-17", six.valueOf(4), 0);
        Check.same("one that is alone", six.valueOf(1), 0);
        Check.same("17, with 0, to rank 5", six.valueOf(17), 5);
        Check.same("10, with 5, round to rank 2", six.valueOf(10), 3);
    }

    // ---- calls that are refused

    private static void refusedCallsChangeNothing() {
        PerfectPew open = Sets.open();
        Check.refusesArgument("add", () -> open.add(100000));
        Check.refusesState("add", () -> open.add(100));
        Check.refusesArgument("addLine", () -> open.addLine(99990, 1, 40));
        Check.refusesArgument("remove", () -> open.remove(-1));
        Check.refusesState("remove", () -> open.remove(101));
        Check.refusesIndex("keyAt", () -> open.keyAt(6));
        Check.refusesArgument("build", () -> open.build(1, 13));
        Check.refusesState("reopen", () -> Boundary.reopen(open));
        Check.refusesState("number", () -> open.number(100));
        Check.same("what stands ahead of build", Snapshot.of(open), Snapshot.of(Sets.open()));
        PerfectPew six = Sets.six();
        Check.refusesState("add", () -> six.add(3));
        Check.refusesState("addLine", () -> six.addLine(3, 1, 3));
        Check.refusesState("remove", () -> six.remove(100));
        Check.refusesState("build", () -> six.build(1, 12));
        Check.refusesArgument("number", () -> six.number(-1));
        Check.refusesArgument("strangers", () -> six.strangers(5, 4));
        Check.refusesIndex("word", () -> six.word(1));
        Check.refusesIndex("valueOf", () -> six.valueOf(18));
        Check.same("what stands when built", Snapshot.of(six), Snapshot.of(Sets.six()));
    }

    private static void severalExceptionsApply() {
        PerfectPew six = Sets.six();
        Check.refusesArgument("add, wrong and built", () -> six.add(-1));
        Check.refusesArgument("addLine, wrong and built", () -> six.addLine(5, 0, 1));
        Check.refusesArgument("addLine, too high and built", () -> six.addLine(99999, 1, 2));
        Check.refusesArgument("remove, wrong and built", () -> six.remove(100000));
        Check.refusesArgument("build, wrong and built", () -> six.build(0, 13));
        PerfectPew full = Sets.fullOfKeys();
        Check.refusesArgument("add, wrong and full", () -> full.add(100000));
        Check.refusesArgument("addLine, too high and too many", () -> full.addLine(99990, 1, 40));
        PerfectPew open = new PerfectPew();
        Check.refusesArgument("build, wrong and no keys", () -> open.build(7, 1));
        Check.refusesArgument("number, wrong and unbuilt", () -> open.number(-1));
        Check.refusesArgument("find, wrong and unbuilt", () -> open.find(-1));
        Check.refusesArgument("strangers, wrong and unbuilt", () -> open.strangers(1, 0));
        Check.refusesArgument("byGraph, wrong and unbuilt", () -> open.byGraph(-1));
        Check.refusesState("keyOf, none and unbuilt", () -> open.keyOf(-1));
        Check.refusesState("fingerprint, none and unbuilt", () -> open.fingerprint(-1));
        Check.refusesState("inBucket, none and unbuilt", () -> open.inBucket(-1));
        Check.refusesState("displacement, none and unbuilt", () -> open.displacement(-1));
        Check.refusesState("word, none and unbuilt", () -> open.word(-1));
        Check.refusesState("valueOf, none and unbuilt", () -> open.valueOf(-1));
    }

    private static void lookingUpUnbuilt() {
        Boundary.refusedUnbuilt("number", pew -> pew.number(0));
        Boundary.refusedUnbuilt("find", pew -> pew.find(0));
        Boundary.refusedUnbuilt("strangers", pew -> pew.strangers(0, 0));
        Boundary.refusedUnbuilt("keyOf", pew -> pew.keyOf(0));
        Boundary.refusedUnbuilt("fingerprint", pew -> pew.fingerprint(0));
        Boundary.refusedUnbuilt("seed", PerfectPew::seed);
        Boundary.refusedUnbuilt("buckets", PerfectPew::buckets);
        Boundary.refusedUnbuilt("inBucket", pew -> pew.inBucket(0));
        Boundary.refusedUnbuilt("displacement", pew -> pew.displacement(0));
        Boundary.refusedUnbuilt("width", PerfectPew::width);
        Boundary.refusedUnbuilt("word", pew -> pew.word(0));
        Boundary.refusedUnbuilt("byGraph", pew -> pew.byGraph(0));
        Boundary.refusedUnbuilt("graphSeed", PerfectPew::graphSeed);
        Boundary.refusedUnbuilt("valueOf", pew -> pew.valueOf(0));
    }
}
