/** All that an object answers, as text: objects that stand alike give the same text. */
final class Snapshot {
    /** How much of a row is read: an object is used for at most 512 calls. */
    private static final int MOST = 24;

    private final PerfectPew pew;
    private final StringBuilder text = new StringBuilder();

    private Snapshot(PerfectPew pew) {
        this.pew = pew;
    }

    /** Goes on to build what is open and to reopen what is built, so it comes last. */
    static String of(PerfectPew pew) {
        return new Snapshot(pew).read();
    }

    private String read() {
        boolean built = pew.isBuilt();
        int keys = pew.keys();
        tell("built", built);
        tell("keys", keys);
        for (int rank = 0; rank < keys; rank++) {
            tell("keyAt", pew.keyAt(rank));
        }
        tell("has(100)", pew.has(100));
        if (!built) {
            tell("build", Check.outcome(() -> pew.build(1, 12)));
        }
        if (pew.isBuilt()) {
            readTables(keys, pew.buckets());
            tell("reopen", Check.outcome(() -> Boundary.reopen(pew)));
        }
        tell("keys at the end", pew.keys());
        return text.toString();
    }

    private void readTables(int keys, int buckets) {
        int width = pew.width();
        tell("seeds", pew.seed() + " and " + pew.graphSeed());
        tell("width", width);
        tell("buckets", buckets);
        for (int bucket = 0; bucket < Math.min(MOST, buckets); bucket++) {
            tell("bucket", pew.inBucket(bucket) + " displaced by " + pew.displacement(bucket));
        }
        for (int number = 0; number < Math.min(MOST, keys); number++) {
            tell("number", pew.keyOf(number) + " with " + pew.fingerprint(number));
        }
        for (int index = 0; 64 * index < width * buckets; index++) {
            tell("word", pew.word(index));
        }
        for (int vertex = 0; vertex < Math.min(MOST, 3 * keys); vertex++) {
            tell("value", pew.valueOf(vertex));
        }
        tell("byGraph(77)", pew.byGraph(77));
        tell("strangers", pew.strangers(0, 999));
    }

    private void tell(String what, Object answer) {
        text.append(what).append(' ').append(answer).append('\n');
    }
}
