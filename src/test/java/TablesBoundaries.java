/** The boundary cases that promises 16 to 21 name. */
final class TablesBoundaries {
    private static final int[] INDEXES = {0, 2, 3, -1, Integer.MIN_VALUE, Integer.MAX_VALUE};
    private static final String UNBUILT =
            "Throws `IllegalStateException` if the tables are not built";
    private static final String BUCKET = "- `bucket`: 0 to buckets() - 1";
    private static final String NO_BUCKET =
            "Throws `IndexOutOfBoundsException` if there is no such bucket";

    private TablesBoundaries() {
    }

    static void test() {
        Boundary.test("Promise 16", "Returns 0 to 39.", TablesBoundaries::leastAndGreatestSeed);
        Boundary.test("Promise 16", UNBUILT,
                () -> Boundary.refusedUnbuilt("seed", PerfectPew::seed));
        Boundary.test("Promise 17", "Returns how many buckets there are.",
                TablesBoundaries::fewestAndMostBuckets);
        Boundary.test("Promise 17", UNBUILT,
                () -> Boundary.refusedUnbuilt("buckets", PerfectPew::buckets));
        ofABucket();
        Boundary.test("Promise 20", "Returns 1 to 9.", TablesBoundaries::leastAndGreatestWidth);
        Boundary.test("Promise 20", UNBUILT,
                () -> Boundary.refusedUnbuilt("width", PerfectPew::width));
        Boundary.test("Promise 21", "- `index`: from 0 on", TablesBoundaries::firstAndLastWord);
        Boundary.test("Promise 21", UNBUILT, TablesBoundaries::wordUnbuilt);
        Boundary.test("Promise 21", "Throws `IndexOutOfBoundsException` if no bit of a displacement"
                + " is in such a word", TablesBoundaries::wordsWithoutABit);
    }

    private static void leastAndGreatestSeed() {
        Check.same("the least", Sets.built(Sets.of(5), 1, 1).seed(), 0);
        Check.same("the greatest", Sets.built(Sets.line(414, 5, 13), 5, 8).seed(), 39);
    }

    private static void fewestAndMostBuckets() {
        Check.same("of one key", Sets.built(Sets.of(5), 1, 1).buckets(), 1);
        Check.same("of six keys, load 6", Sets.built(Sets.open(), 6, 8).buckets(), 1);
        Check.same("of 120 keys, load 1", Sets.widest().buckets(), 120);
    }

    // ---- inBucket and displacement

    private static void ofABucket() {
        Boundary.test("Promise 18", BUCKET, TablesBoundaries::sizesOfFirstAndLast);
        Boundary.test("Promise 18", "Returns how many.", TablesBoundaries::fewestAndMostInABucket);
        Boundary.test("Promise 18", UNBUILT, TablesBoundaries::inBucketUnbuilt);
        Boundary.test("Promise 18", NO_BUCKET, TablesBoundaries::inBucketRefusesBuckets);
        Boundary.test("Promise 19", BUCKET, TablesBoundaries::displacementsOfFirstAndLast);
        Boundary.test("Promise 19", "Returns 0 to 511.",
                TablesBoundaries::leastAndGreatestDisplacement);
        Boundary.test("Promise 19", UNBUILT, TablesBoundaries::displacementUnbuilt);
        Boundary.test("Promise 19", NO_BUCKET, TablesBoundaries::displacementRefusesBuckets);
    }

    private static PerfectPew oneKey() {
        return Sets.built(Sets.of(5), 1, 1);
    }

    private static void sizesOfFirstAndLast() {
        PerfectPew four = Sets.built(Sets.line(2500, 24, 4), 1, 8);
        Check.same("0 of 4", four.inBucket(0), 3);
        Check.same("3 of 4", four.inBucket(3), 1);
        PerfectPew full = Sets.full();
        Check.same("0 of 60", full.inBucket(0), 2);
        Check.same("59 of 60", full.inBucket(59), 5);
        Check.same("119 of 120", Sets.widest().inBucket(119), 1);
    }

    private static void fewestAndMostInABucket() {
        Check.same("none", Sets.built(Sets.of(1071, 1087), 1, 8).inBucket(1), 0);
        Check.same("all of two", Sets.built(Sets.of(1071, 1087), 1, 8).inBucket(0), 2);
        Check.same("all of six", Sets.built(Sets.open(), 6, 8).inBucket(0), 6);
        int sum = 0;
        for (int size : Sets.bucketSizes(Sets.widest())) {
            sum += size;
        }
        Check.same("together all", sum, 120);
    }

    private static void inBucketUnbuilt() {
        for (int bucket : INDEXES) {
            Boundary.refusedUnbuilt("inBucket(" + bucket + ")", pew -> pew.inBucket(bucket));
        }
    }

    private static void inBucketRefusesBuckets() {
        Boundary.refusedOutside("inBucket", 3, PerfectPew::inBucket);
        Boundary.refused("inBucket(1) of one", Boundary.INDEX, TablesBoundaries::oneKey,
                pew -> pew.inBucket(1));
        Boundary.refused("inBucket(60) of 60", Boundary.INDEX, Sets::full,
                pew -> pew.inBucket(60));
        Boundary.refused("inBucket(120) of 120", Boundary.INDEX, Sets::widest,
                pew -> pew.inBucket(120));
        Boundary.refused("inBucket(5), once there are five", Boundary.INDEX,
                LookupBoundaries::oneLess, pew -> pew.inBucket(5));
    }

    private static void displacementsOfFirstAndLast() {
        PerfectPew six = Sets.six();
        Check.same("0 of 3", six.displacement(0), 1);
        Check.same("2 of 3", six.displacement(2), 3);
        Check.same("0 of 60", Sets.full().displacement(0), 1);
        Check.same("59 of 60", Sets.full().displacement(59), 0);
    }

    private static void leastAndGreatestDisplacement() {
        Check.same("of one key", oneKey().displacement(0), 0);
        // d and d + n lead to the same numbers, so a least displacement is at most n - 1.
        Check.same("119 of 120 keys", Sets.widest().displacement(119), 119);
    }

    private static void displacementUnbuilt() {
        for (int bucket : INDEXES) {
            Boundary.refusedUnbuilt("displacement(" + bucket + ")",
                    pew -> pew.displacement(bucket));
        }
    }

    private static void displacementRefusesBuckets() {
        Boundary.refusedOutside("displacement", 3, PerfectPew::displacement);
        Boundary.refused("displacement(1) of one", Boundary.INDEX, TablesBoundaries::oneKey,
                pew -> pew.displacement(1));
        Boundary.refused("displacement(60) of 60", Boundary.INDEX, Sets::full,
                pew -> pew.displacement(60));
        Boundary.refused("displacement(120) of 120", Boundary.INDEX, Sets::widest,
                pew -> pew.displacement(120));
        Boundary.refused("displacement(5), once there are five", Boundary.INDEX,
                LookupBoundaries::oneLess, pew -> pew.displacement(5));
    }

    // ---- width and word

    private static void leastAndGreatestWidth() {
        Check.same("the least", oneKey().width(), 1);
        // Displacements are at most 119, so that seven bits are the most.
        Check.same("the greatest", Sets.widest().width(), 7);
    }

    private static void firstAndLastWord() {
        Check.same("the only one", oneKey().word(0), 0L);
        PerfectPew widest = Sets.widest();
        Check.same("the first of 14", widest.word(0), 26388287488001L);
        Check.same("the last of 14", widest.word(13), 238L);
    }

    private static void wordUnbuilt() {
        for (int index : INDEXES) {
            Boundary.refusedUnbuilt("word(" + index + ")", pew -> pew.word(index));
        }
    }

    private static void wordsEndAt(int end, Boundary.Maker maker) {
        maker.make().word(end - 1);
        for (int index : new int[] {end, end + 1, -1, Integer.MIN_VALUE, Integer.MAX_VALUE}) {
            Boundary.refused("word(" + index + ") of " + end, Boundary.INDEX, maker,
                    pew -> pew.word(index));
        }
    }

    private static void wordsWithoutABit() {
        wordsEndAt(1, TablesBoundaries::oneKey);
        wordsEndAt(1, Sets::six);
        // 21 of three bits, 16 of four, 13 of five, 32 of four, 60 of six, 120 of seven.
        wordsEndAt(1, () -> Sets.built(Sets.line(903, 12, 21), 1, 8));
        wordsEndAt(1, () -> Sets.built(Sets.line(1873, 24, 16), 1, 8));
        wordsEndAt(2, () -> Sets.built(Sets.line(572, 23, 26), 2, 8));
        wordsEndAt(2, () -> Sets.built(Sets.line(1906, 18, 32), 1, 8));
        wordsEndAt(6, Sets::full);
        wordsEndAt(14, Sets::widest);
        Check.same("63 bits", bits(Sets.line(903, 12, 21), 1), 63);
        Check.same("64 bits", bits(Sets.line(1873, 24, 16), 1), 64);
        Check.same("65 bits", bits(Sets.line(572, 23, 26), 2), 65);
        Check.same("128 bits", bits(Sets.line(1906, 18, 32), 1), 128);
    }

    private static int bits(PerfectPew pew, int load) {
        pew.build(load, 8);
        return pew.width() * pew.buckets();
    }
}
