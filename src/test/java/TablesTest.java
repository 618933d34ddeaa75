/** Promises 16 to 21: seed, buckets, inBucket, displacement, width, word. */
public final class TablesTest {
    private static final int[] FULL_SIZES = {
        2, 4, 2, 4, 2, 3, 2, 2, 2, 1, 2, 1, 3, 1, 2, 1, 2, 1, 2, 0, 2, 1, 2, 2, 2, 2, 1, 2, 2, 3,
        3, 3, 2, 4, 1, 3, 2, 4, 1, 1, 2, 1, 2, 1, 3, 1, 3, 1, 2, 1, 3, 1, 2, 1, 2, 1, 2, 3, 1, 5};
    private static final int[] FULL_DISPLACEMENTS = {
        1, 1, 1, 0, 2, 0, 0, 0, 12, 4, 1, 1, 2, 1, 6, 3, 0, 0, 4, 0, 12, 11, 1, 0, 9, 4, 3, 3, 15,
        0, 2, 2, 1, 1, 0, 0, 8, 2, 6, 1, 3, 31, 22, 18, 1, 9, 2, 24, 10, 8, 8, 34, 15, 3, 17, 32,
        27, 0, 53, 0};
    private static final long[] FULL_WORDS = {
        1228356798398861377L, -3746924521020440060L, 585484496594862098L, 7476824619010228289L,
        -3492398529951678135L, 14228881680L};
    private static final int[] WRONG = {-1, Integer.MIN_VALUE, Integer.MAX_VALUE};

    public static void main(String[] args) {
        seed();
        buckets();
        inBucket();
        displacement();
        width();
        word();
        wordsOfManyBuckets();
        Check.end("TablesTest");
    }

    private static PerfectPew unbuilt() {
        return Sets.line(100, 7, 6);
    }

    private static PerfectPew built(PerfectPew pew, int load) {
        pew.build(load, 8);
        return pew;
    }

    private static void seed() {
        Check.refusesState("seed ahead of build", unbuilt()::seed);
        Check.same("seed of six", Sets.six().seed(), 1);
        Check.same("seed of 120", Sets.full().seed(), 19);
        Check.same("the greatest seed", built(Sets.line(414, 5, 13), 5).seed(), 39);
    }

    private static void buckets() {
        Check.refusesState("buckets ahead of build", unbuilt()::buckets);
        Check.same("6 keys, load 2", Sets.six().buckets(), 3);
        Check.same("6 keys, load 1", built(unbuilt(), 1).buckets(), 6);
        Check.same("6 keys, load 3", built(unbuilt(), 3).buckets(), 2);
        Check.same("2 keys, load 6", built(Sets.of(5, 6), 6).buckets(), 1);
        Check.same("13 keys, load 5", built(Sets.line(414, 5, 13), 5).buckets(), 3);
        Check.same("120 keys, load 2", Sets.full().buckets(), 60);
    }

    private static void inBucket() {
        Check.refusesState("inBucket ahead of build", () -> unbuilt().inBucket(0));
        Check.refusesState("inBucket(-1) ahead of build", () -> unbuilt().inBucket(-1));
        Check.same("sizes of six", Sets.bucketSizes(Sets.six()), new int[] {2, 2, 2});
        PerfectPew full = Sets.full();
        Check.same("sizes of 120", Sets.bucketSizes(full), FULL_SIZES);
        Check.refusesIndex("inBucket(60)", () -> full.inBucket(60));
        for (int bucket : WRONG) {
            Check.refusesIndex("inBucket(" + bucket + ")", () -> full.inBucket(bucket));
        }
    }

    private static void displacement() {
        Check.refusesState("displacement ahead of build", () -> unbuilt().displacement(0));
        Check.refusesState("displacement(9) ahead of build", () -> unbuilt().displacement(9));
        Check.same("displacements of six", Sets.displacements(Sets.six()), new int[] {1, 3, 3});
        PerfectPew full = Sets.full();
        Check.same("displacements of 120", Sets.displacements(full), FULL_DISPLACEMENTS);
        Check.same("0 for the bucket without keys", full.displacement(19), 0);
        Check.refusesIndex("displacement(60)", () -> full.displacement(60));
        for (int bucket : WRONG) {
            Check.refusesIndex("displacement(" + bucket + ")", () -> full.displacement(bucket));
        }
    }

    private static void width() {
        Check.refusesState("width ahead of build", unbuilt()::width);
        Check.same("width for 0", built(Sets.of(5), 1).width(), 1);
        Check.same("width for 1", built(Sets.line(414, 5, 13), 5).width(), 1);
        Check.same("width for 3", Sets.six().width(), 2);
        Check.same("width for 5", graphSet().width(), 3);
        Check.same("width for 53", Sets.full().width(), 6);
        Check.same("width for 119", wide().width(), 7);
    }

    private static PerfectPew graphSet() {
        return built(Sets.of(Sets.LAST_GRAPH_SEED), 2);
    }

    private static PerfectPew wide() {
        return built(Sets.lines(55959, 26, 47718, 821, 37808, 456), 1);
    }

    private static void word() {
        Check.refusesState("word ahead of build", () -> unbuilt().word(0));
        Check.refusesState("word(-1) ahead of build", () -> unbuilt().word(-1));
        PerfectPew six = Sets.six();
        Check.same("1, 3, 3 in two bits each", six.word(0), 61L);
        Check.refusesIndex("word(1) of six bits", () -> six.word(1));
        Check.same("a word of zeros", built(Sets.of(5), 1).word(0), 0L);
        Check.same("5, 0, 1 in three bits each", graphSet().word(0), 69L);
        for (int index : WRONG) {
            Check.refusesIndex("word(" + index + ")", () -> six.word(index));
        }
    }

    private static void wordsOfManyBuckets() {
        PerfectPew full = Sets.full();
        for (int index = 0; index < FULL_WORDS.length; index++) {
            Check.same("word(" + index + ")", full.word(index), FULL_WORDS[index]);
        }
        Check.refusesIndex("word(6) of 360 bits", () -> full.word(6));
        PerfectPew wide = wide();
        Check.same("the first word of 840 bits", wide.word(0), -9078689466144505471L);
        Check.same("the last word of 840 bits", wide.word(13), 238L);
        Check.refusesIndex("word(14) of 840 bits", () -> wide.word(14));
        wide.reopen();
        for (int left = 120; left > 1; left--) {
            wide.remove(wide.keyAt(0));
        }
        Check.same("one word, when all keys but one are gone", built(wide, 1).word(0), 0L);
        Check.refusesIndex("word(1) then", () -> wide.word(1));
    }
}
