/** The sentences ahead of the promises, with ordinary inputs. */
final class TermsSentences {
    private static final String WHAT = "What it is";
    private static final String TERMS = "Terms";

    private TermsSentences() {
    }

    static void test() {
        Boundary.test(WHAT, "buckets of keys are displaced so that n keys get the numbers 0 to"
                + " n - 1, each another one;", TermsSentences::eachKeyHasANumberOfItsOwn);
        Boundary.test(WHAT, "fingerprints tell strangers, for the most part;",
                TermsSentences::mostStrangersAreTold);
        Boundary.test(WHAT, "displacements are packed into words.",
                () -> Check.same("1, 3, 3 in two bits each", Sets.six().word(0),
                        1L + 3 * 4 + 3 * 16));
        Boundary.test(TERMS,
                "As a second way, an acyclic graph of the same keys gives each its rank.",
                TermsSentences::theGraphGivesRanks);
        Boundary.test(TERMS, "Keys are gathered one by one or in lines;",
                TermsSentences::oneByOneOrInLines);
        Boundary.test(TERMS, "then the tables are built once, and looked into.",
                TermsSentences::builtOnce);
        hashes();
        displacing();
        Boundary.test(TERMS, "For each number the fingerprint of the key that has it is kept.",
                TermsSentences::fingerprintsByNumber);
        Boundary.test(TERMS, "The displacements are written one behind the other, by rising numbers"
                + " of the buckets, each with the width, the lowest bit first, into words of 64"
                + " bits, from the lowest bit of word 0 on;", TermsSentences::bitByBit);
        Boundary.test(TERMS, "and an edge for each key, which joins the vertices that are the"
                + " remainders of its hashes 4 and 5 by 3n.", TermsSentences::anEdgeForEachKey);
    }

    private static void eachKeyHasANumberOfItsOwn() {
        PerfectPew full = Sets.full();
        int[] had = new int[120];
        for (int rank = 0; rank < 120; rank++) {
            had[full.number(full.keyAt(rank))]++;
        }
        for (int number = 0; number < 120; number++) {
            Check.same("how many keys have number " + number, had[number], 1);
        }
    }

    private static void mostStrangersAreTold() {
        PerfectPew twenty = Sets.twenty();
        for (int key = 0; key < 50; key++) {
            Check.same("find(" + key + ")", twenty.find(key), PerfectPew.NONE);
        }
        Check.same("a stranger that is not told", twenty.find(1615), 4);
        Check.same("six of 4998 are not told", twenty.strangers(0, 4999), 6);
    }

    private static void theGraphGivesRanks() {
        PerfectPew twenty = Sets.twenty();
        for (int rank = 0; rank < 20; rank++) {
            Check.same("rank " + rank, twenty.byGraph(50 + 3001 * rank), rank);
        }
    }

    private static void oneByOneOrInLines() {
        PerfectPew one = Sets.of(100, 107, 114, 121, 128, 135);
        Check.same("one by one as in a line", Snapshot.of(one), Snapshot.of(Sets.open()));
        PerfectPew mixed = Sets.of(128, 100);
        mixed.addLine(107, 7, 3);
        mixed.add(135);
        Check.same("mixed as in a line", Snapshot.of(mixed), Snapshot.of(Sets.open()));
    }

    private static void builtOnce() {
        PerfectPew six = Sets.six();
        Check.refusesState("build once more", () -> six.build(2, 8));
        for (int look = 0; look < 3; look++) {
            Check.same("number(100), look " + look, six.number(100), 5);
            Check.same("byGraph(128), look " + look, six.byGraph(128), 4);
            Check.same("strangers(0, 999), look " + look, six.strangers(0, 999), 7);
        }
    }

    // ---- hashes: the formulas once more, with the document's numbers

    private static int hash0(int key, int seed) {
        return (int) ((key * 9973L + seed * 7919L + 11) % 1000003);
    }

    private static int hash1(int key, int seed) {
        return (int) ((key * 104729L + seed * 15485L + 101) % 1000003);
    }

    private static int hash2(int key, int seed) {
        return (int) ((key * 31337L + seed * 27644L + 1009) % 1000003);
    }

    private static int hash3(int key, int seed) {
        return (int) ((key * 611953L + seed * 39916L + 10007) % 1000003);
    }

    private static int hash4(int key, int seed) {
        return (int) ((key * 86243L + seed * 65537L + 313) % 1000003);
    }

    private static int hash5(int key, int seed) {
        return (int) ((key * 756839L + seed * 44497L + 2203) % 1000003);
    }

    private static void hashes() {
        Boundary.test(TERMS, "Hash i of a key k with a seed s is the remainder by 1000003 of"
                + " k * A + s * B + C", TermsSentences::remaindersBy1000003);
        Boundary.test(TERMS, "for i = 0: 9973, 7919, 11;", TermsSentences::bucketsByHash0);
        Boundary.test(TERMS, "for i = 1: 104729, 15485, 101;", TermsSentences::numbersByHash1);
        Boundary.test(TERMS, "for i = 2: 31337, 27644, 1009;", TermsSentences::numbersByHash2);
        Boundary.test(TERMS, "for i = 3: 611953, 39916, 10007;",
                TermsSentences::fingerprintsByHash3);
        Boundary.test(TERMS, "for i = 4: 86243, 65537, 313;", TermsSentences::verticesByHash4);
        Boundary.test(TERMS, "for i = 5: 756839, 44497, 2203.", TermsSentences::verticesByHash5);
        Boundary.test(TERMS, "hashes 0 to 3 are those with the seed.",
                TermsSentences::hashesWithTheSeedThatIsUsed);
    }

    private static void remaindersBy1000003() {
        // With seed 0 hash 3 of 1 is 621960, of 2 it is 1233913 - 1000003.
        Check.same("1", Sets.built(Sets.of(1), 1, 12).fingerprint(0), 621960 % 4096);
        Check.same("2", Sets.built(Sets.of(2), 1, 12).fingerprint(0), 233910 % 4096);
    }

    private static void bucketsByHash0() {
        PerfectPew full = Sets.full();
        int[] sizes = new int[60];
        for (int rank = 0; rank < 120; rank++) {
            sizes[hash0(full.keyAt(rank), 19) % 60]++;
        }
        Check.same("sizes with seed 19", Sets.bucketSizes(full), sizes);
    }

    private static void numbersByHash1() {
        // None of these keys is displaced, with seed 0.
        PerfectPew still = Sets.built(Sets.line(2142, 1, 6), 2, 8);
        for (int key = 0; key < 100; key++) {
            Check.same("number(" + key + ")", still.number(key), hash1(key, 0) % 6);
        }
    }

    private static void numbersByHash2() {
        PerfectPew full = Sets.full();
        int[] displacements = Sets.displacements(full);
        for (int key = 0; key < 100; key++) {
            int step = 1 + hash2(key, 19) % 119;
            int due = (hash1(key, 19) + displacements[hash0(key, 19) % 60] * step) % 120;
            Check.same("number(" + key + ")", full.number(key), due);
        }
    }

    private static void fingerprintsByHash3() {
        for (int key = 7; key < 100000; key += 9999) {
            PerfectPew one = Sets.built(Sets.of(key), 1, 12);
            Check.same("of " + key, one.fingerprint(0), hash3(key, one.seed()) % 4096);
        }
    }

    private static void verticesByHash4() {
        PerfectPew twenty = Sets.twenty();
        int[] values = Sets.values(twenty);
        for (int key = 0; key < 200; key++) {
            if (values[hash5(key, 1) % 60] == 0) {
                Check.same("byGraph(" + key + ")", twenty.byGraph(key),
                        values[hash4(key, 1) % 60]);
            }
        }
    }

    private static void verticesByHash5() {
        PerfectPew twenty = Sets.twenty();
        int[] values = Sets.values(twenty);
        for (int key = 0; key < 200; key++) {
            if (values[hash4(key, 1) % 60] == 0) {
                Check.same("byGraph(" + key + ")", twenty.byGraph(key),
                        values[hash5(key, 1) % 60]);
            }
        }
    }

    private static void hashesWithTheSeedThatIsUsed() {
        PerfectPew twenty = Sets.twenty();
        int[] displacements = Sets.displacements(twenty);
        Check.same("seed()", twenty.seed(), 15);
        for (int rank = 0; rank < 20; rank++) {
            int key = 50 + 3001 * rank;
            int way = displacements[hash0(key, 15) % 7] * (1 + hash2(key, 15) % 19);
            int number = (hash1(key, 15) + way) % 20;
            Check.same("number(" + key + ")", twenty.number(key), number);
            Check.same("fingerprint of " + key, twenty.fingerprint(number),
                    hash3(key, 15) % 1024);
        }
    }

    // ---- displacing

    private static void displacing() {
        Boundary.test(TERMS, "With a displacement d a key, also one that is not there, has",
                TermsSentences::strangersHaveNumbers);
        Boundary.test(TERMS, "with which its keys have numbers, each another one, that no key of a"
                + " bucket ahead of it has.", TermsSentences::leastThatIsFree);
    }

    private static void strangersHaveNumbers() {
        // With seed 15: 1 is in bucket 4 and 2 in bucket 2, which are not displaced; 4 is in
        // bucket 5, displaced by 10, and 777 in bucket 6, displaced by 13.
        PerfectPew twenty = Sets.twenty();
        Check.same("number(1)", twenty.number(1), 337105 % 20);
        Check.same("number(2)", twenty.number(2), 441834 % 20);
        Check.same("number(4)", twenty.number(4), (651292 + 10 * (1 + 541017 % 19)) % 20);
        Check.same("number(777)", twenty.number(777), (606566 + 13 * (1 + 764446 % 19)) % 20);
    }

    private static void leastThatIsFree() {
        PerfectPew twenty = Sets.twenty();
        int[] due = Sets.displacements(twenty);
        boolean[] taken = new boolean[20];
        // Buckets of 4, of 3 and of 2 keys; each by rising numbers.
        for (int bucket : new int[] {0, 2, 3, 4, 6, 1, 5}) {
            int displacement = 0;
            while (!fits(bucket, displacement, taken)) {
                displacement++;
            }
            Check.same("the least for bucket " + bucket, due[bucket], displacement);
        }
    }

    private static boolean fits(int bucket, int displacement, boolean[] taken) {
        boolean[] then = taken.clone();
        for (int key = 50; key <= 57069; key += 3001) {
            if (hash0(key, 15) % 7 == bucket) {
                int step = 1 + hash2(key, 15) % 19;
                int number = (hash1(key, 15) + displacement * step) % 20;
                if (then[number]) {
                    return false;
                }
                then[number] = true;
            }
        }
        System.arraycopy(then, 0, taken, 0, 20);
        return true;
    }

    // ---- what is kept

    private static void fingerprintsByNumber() {
        PerfectPew full = Sets.full();
        for (int number = 0; number < 120; number++) {
            Check.same("of number " + number, full.fingerprint(number),
                    hash3(full.keyOf(number), 19) % 4096);
        }
    }

    private static void bitByBit() {
        PerfectPew full = Sets.full();
        int[] displacements = Sets.displacements(full);
        long[] words = new long[6];
        for (int index = 0; index < 6; index++) {
            words[index] = full.word(index);
        }
        for (int bit = 0; bit < 384; bit++) {
            int due = bit < 360 ? displacements[bit / 6] >> bit % 6 & 1 : 0;
            Check.same("bit " + bit, words[bit / 64] >>> bit % 64 & 1, (long) due);
        }
    }

    private static void anEdgeForEachKey() {
        PerfectPew twenty = Sets.twenty();
        int[] values = Sets.values(twenty);
        Check.same("graphSeed()", twenty.graphSeed(), 1);
        for (int rank = 0; rank < 20; rank++) {
            int key = 50 + 3001 * rank;
            int sum = values[hash4(key, 1) % 60] + values[hash5(key, 1) % 60];
            Check.same("the edge of " + key, sum % 20, rank);
        }
    }
}
