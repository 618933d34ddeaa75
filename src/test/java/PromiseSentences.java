/** The sentences of the promises that name no boundary, with ordinary inputs. */
final class PromiseSentences {
    private static final String HOW_MANY_THEN = "Returns how many keys there are then.";
    private static final int[] BY_NUMBER = {
        39063, 24058, 6052, 9053, 45065, 27059, 36062, 54068, 48066, 57069, 42064, 50, 30060,
        15055, 21057, 51067, 12054, 33061, 3051, 18056};
    private static final int[] FINGERPRINTS = {
        47, 63, 999, 524, 566, 33, 77, 610, 91, 580, 596, 480, 582, 19, 538, 61, 494, 552, 5, 568};
    private static final int[] VALUES = {
        0, 0, 0, 0, 0, 0, 0, 0, 0, 6, 0, 0, 0, 14, 0, 0, 0, 0, 0, 0, 2, 0, 8, 0, 0, 0, 12, 0, 0, 0,
        0, 0, 0, 0, 0, 4, 0, 15, 19, 0, 11, 14, 1, 5, 9, 18, 0, 0, 3, 3, 0, 0, 0, 3, 10, 15, 0, 0,
        0, 17};

    private PromiseSentences() {
    }

    static void test() {
        changes();
        looksAtKeys();
        building();
        lookingUp();
        tables();
        graph();
    }

    // ---- promises 2 to 4

    private static void changes() {
        Boundary.test("Promise 2", "Adds a key.", PromiseSentences::adds);
        Boundary.test("Promise 2", HOW_MANY_THEN, PromiseSentences::countsWhatIsAdded);
        Boundary.test("Promise 3",
                "Adds the keys first, first + step, first + 2 step and so on;",
                PromiseSentences::addsALine);
        Boundary.test("Promise 3", HOW_MANY_THEN, PromiseSentences::countsLines);
        Boundary.test("Promise 4", "Removes a key.", PromiseSentences::removes);
    }

    private static void adds() {
        PerfectPew pew = new PerfectPew();
        pew.add(4711);
        Check.same("has(4711)", pew.has(4711), true);
        pew.add(815);
        Check.same("the keys", Sets.ranked(pew), new int[] {815, 4711});
    }

    private static void countsWhatIsAdded() {
        PerfectPew pew = new PerfectPew();
        for (int many = 1; many <= 120; many++) {
            Check.same("key " + many, pew.add(100000 - 800 * many), many);
        }
        Check.same("keys()", pew.keys(), 120);
    }

    private static void addsALine() {
        PerfectPew pew = new PerfectPew();
        pew.addLine(50, 3001, 5);
        Check.same("the keys", Sets.ranked(pew), new int[] {50, 3051, 6052, 9053, 12054});
    }

    private static void countsLines() {
        PerfectPew pew = Sets.of(6052, 1);
        Check.same("five, of which one is there", pew.addLine(50, 3001, 5), 6);
        Check.same("two more", pew.addLine(2, 2, 2), 8);
        Check.same("keys()", pew.keys(), 8);
    }

    private static void removes() {
        PerfectPew pew = Sets.line(50, 3001, 5);
        Check.same("four are left", pew.remove(6052), 4);
        Check.same("has(6052)", pew.has(6052), false);
        Check.same("the keys", Sets.ranked(pew), new int[] {50, 3051, 9053, 12054});
    }

    // ---- promises 6 and 7

    private static void looksAtKeys() {
        Boundary.test("Promise 6", "Tells whether a key is there.", PromiseSentences::hasOpen);
        Boundary.test("Promise 6", "Returns whether it is.", PromiseSentences::hasBuilt);
        Boundary.test("Promise 7", "Returns the key with a rank.", PromiseSentences::ranksMove);
        Boundary.test("Promise 7", "Returns the key.", PromiseSentences::keyAtBuilt);
    }

    private static void hasOpen() {
        PerfectPew open = Sets.open();
        for (int key = 90; key < 150; key++) {
            boolean due = key >= 100 && key <= 135 && (key - 100) % 7 == 0;
            Check.same("has(" + key + ")", open.has(key), due);
        }
    }

    private static void hasBuilt() {
        PerfectPew twenty = Sets.twenty();
        Check.same("has(57069)", twenty.has(57069), true);
        Check.same("has(57070)", twenty.has(57070), false);
        Check.same("has(1615), a stranger that find does not tell", twenty.has(1615), false);
    }

    private static void ranksMove() {
        PerfectPew pew = Sets.of(30, 50);
        Check.same("keyAt(1)", pew.keyAt(1), 50);
        pew.add(40);
        Check.same("keyAt(1) once 40 is there", pew.keyAt(1), 40);
        pew.remove(30);
        Check.same("keyAt(1) once 30 is gone", pew.keyAt(1), 50);
    }

    private static void keyAtBuilt() {
        PerfectPew twenty = Sets.twenty();
        for (int rank = 0; rank < 20; rank++) {
            Check.same("keyAt(" + rank + ")", twenty.keyAt(rank), 50 + 3001 * rank);
        }
    }

    // ---- promise 8

    private static void building() {
        Boundary.test("Promise 8", "Builds the tables.", PromiseSentences::builds);
        Boundary.test("Promise 8", "Returns the seed that is used for displacing.",
                PromiseSentences::buildReturnsTheSeed);
    }

    private static void builds() {
        PerfectPew pew = Sets.open();
        pew.build(2, 8);
        Check.same("isBuilt()", pew.isBuilt(), true);
        Check.same("number(100)", pew.number(100), 5);
        Check.same("byGraph(107)", pew.byGraph(107), 1);
    }

    private static void buildReturnsTheSeed() {
        Check.same("of twenty", Sets.line(50, 3001, 20).build(3, 10), 15);
        Check.same("of twenty, load 2", Sets.line(50, 3001, 20).build(2, 10), 5);
        Check.same("of thirty", Sets.line(31, 997, 30).build(2, 10), 10);
    }

    // ---- promises 11 to 15

    private static void lookingUp() {
        Boundary.test("Promise 11", "Returns the number of a key: its own if it is there;",
                PromiseSentences::numbersOfKeys);
        Boundary.test("Promise 11", "for a stranger the one that its hashes and the displacement of"
                + " its bucket lead to.", PromiseSentences::numbersOfStrangers);
        Boundary.test("Promise 12", "Looks a key up: its fingerprint is held against the one that"
                + " is kept for its number.", PromiseSentences::finds);
        Boundary.test("Promise 13", "Returns how many.", PromiseSentences::countsStrangers);
        Boundary.test("Promise 14", "Returns the key that has a number.",
                () -> Check.same("by number", Sets.numbered(Sets.twenty()), BY_NUMBER));
        Boundary.test("Promise 14", "Returns the key.", PromiseSentences::keyOfItsNumber);
        Boundary.test("Promise 15", "Returns the fingerprint that is kept for a number.",
                () -> Check.same("by number", Sets.fingerprints(Sets.twenty()), FINGERPRINTS));
    }

    private static void numbersOfKeys() {
        PerfectPew twenty = Sets.twenty();
        for (int number = 0; number < 20; number++) {
            Check.same("number(" + BY_NUMBER[number] + ")", twenty.number(BY_NUMBER[number]),
                    number);
        }
    }

    private static void numbersOfStrangers() {
        PerfectPew twenty = Sets.twenty();
        Check.same("number(1), bucket 4", twenty.number(1), 5);
        Check.same("number(777), bucket 6", twenty.number(777), 19);
    }

    private static void finds() {
        PerfectPew twenty = Sets.twenty();
        for (int number = 0; number < 20; number++) {
            Check.same("find(" + BY_NUMBER[number] + ")", twenty.find(BY_NUMBER[number]), number);
        }
        Check.same("find(1843)", twenty.find(1843), 4);
        Check.same("find(4019)", twenty.find(4019), 14);
        Check.same("find(1844)", twenty.find(1844), PerfectPew.NONE);
    }

    private static void countsStrangers() {
        PerfectPew twenty = Sets.twenty();
        Check.same("1615, 1843 and 1872", twenty.strangers(1600, 1900), 3);
        Check.same("none", twenty.strangers(1900, 3000), 0);
        Check.same("5000 to 9999", twenty.strangers(5000, 9999), 9);
    }

    private static void keyOfItsNumber() {
        PerfectPew full = Sets.full();
        for (int rank = 0; rank < 120; rank++) {
            int key = full.keyAt(rank);
            Check.same("of the number of " + key, full.keyOf(full.number(key)), key);
        }
    }

    // ---- promises 16 to 21

    private static void tables() {
        Boundary.test("Promise 16", "Returns the seed that is used for displacing.",
                () -> Check.same("of twenty", Sets.twenty().seed(), 15));
        Boundary.test("Promise 17", "Returns how many.",
                () -> Check.same("of twenty", Sets.twenty().buckets(), 7));
        Boundary.test("Promise 18", "Returns how many keys are in a bucket.",
                () -> Check.same("of twenty", Sets.bucketSizes(Sets.twenty()),
                        new int[] {4, 2, 3, 3, 3, 2, 3}));
        Boundary.test("Promise 19", "Returns the displacement of a bucket.",
                () -> Check.same("of twenty", Sets.displacements(Sets.twenty()),
                        new int[] {0, 3, 0, 0, 0, 10, 13}));
        Boundary.test("Promise 20", "Returns the width.",
                () -> Check.same("of twenty", Sets.twenty().width(), 4));
        Boundary.test("Promise 21", "Returns a word of the packed displacements.",
                () -> Check.same("of twenty", Sets.twenty().word(0), 228589616L));
        Boundary.test("Promise 21", "Returns the word.", PromiseSentences::wordsOfThirty);
    }

    private static void wordsOfThirty() {
        PerfectPew thirty = Sets.built(Sets.line(31, 997, 30), 2, 10);
        Check.same("word(0)", thirty.word(0), -5568656954449949600L);
        Check.same("word(1)", thirty.word(1), 17L);
    }

    // ---- promises 22 to 24

    private static void graph() {
        Boundary.test("Promise 22", "Returns what the graph gives a key: its rank if it is there;",
                PromiseSentences::byGraphOfKeys);
        Boundary.test("Promise 22", "for a stranger the values of the two vertices that its hashes"
                + " lead to, together, modulo keys().", PromiseSentences::byGraphOfStrangers);
        Boundary.test("Promise 23", "Returns the seed that is used for the graph.",
                () -> Check.same("of twenty", Sets.twenty().graphSeed(), 1));
        Boundary.test("Promise 24", "Returns the value of a vertex.",
                () -> Check.same("of twenty", Sets.values(Sets.twenty()), VALUES));
    }

    private static void byGraphOfKeys() {
        PerfectPew thirty = Sets.built(Sets.line(31, 997, 30), 2, 10);
        for (int rank = 0; rank < 30; rank++) {
            Check.same("byGraph(" + (31 + 997 * rank) + ")", thirty.byGraph(31 + 997 * rank), rank);
        }
    }

    private static void byGraphOfStrangers() {
        // With graph seed 1 hashes 4 and 5 of 1 are 152093 and 803539, of 777 76460 and 108839.
        PerfectPew twenty = Sets.twenty();
        Check.same("byGraph(1)", twenty.byGraph(1),
                (VALUES[152093 % 60] + VALUES[803539 % 60]) % 20);
        Check.same("byGraph(777)", twenty.byGraph(777),
                (VALUES[76460 % 60] + VALUES[108839 % 60]) % 20);
    }
}
