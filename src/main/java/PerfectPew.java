import java.util.Arrays;

/**
 * A minimal perfect hash for a set of keys: buckets of keys are displaced so that n keys get the
 * numbers 0 to n - 1, each another one. An acyclic graph of the same keys gives each its rank.
 */
public final class PerfectPew {
    public static final int NONE = -1;

    private static final int HIGHEST_KEY = 99999;
    private static final int MOST_KEYS = 120;
    private static final int HIGHEST_STEP = 9999;
    private static final int LONGEST_LINE = 40;
    private static final int HIGHEST_LOAD = 6;
    private static final int MOST_BITS = 12;
    private static final int WIDEST_SPAN = 4999;
    private static final int HASH_PRIME = 1000003;
    private static final int SEEDS = 40;
    private static final int DISPLACEMENTS = 512;
    private static final int WIDEST_DISPLACEMENT = 9;
    private static final int WORD_BITS = 64;
    private static final int GRAPH_SEEDS = 200;
    private static final int VERTICES_PER_KEY = 3;

    private final KeyList sorted = new KeyList();
    private final Displacer displacer = new Displacer();
    private final Packer packer = new Packer();
    private final Graph graph = new Graph();
    private final Row fingerprints = new Row(MOST_KEYS);
    private int fingerprintMask;
    private boolean built;

    public PerfectPew() {
    }

    // ---- keys

    public int add(int key) throws IllegalArgumentException, IllegalStateException {
        requireKey(key);
        requireOpen();
        if (sorted.holds(key)) {
            throw new IllegalStateException("the key is there");
        }
        requireRoomFor(1);
        sorted.insert(key);
        return sorted.size;
    }

    public int addLine(int first, int step, int many)
            throws IllegalArgumentException, IllegalStateException {
        requireLine(first, step, many);
        requireOpen();
        requireRoomFor(newInLine(first, step, many));
        for (int i = 0; i < many; i++) {
            int key = first + i * step;
            if (!sorted.holds(key)) {
                sorted.insert(key);
            }
        }
        return sorted.size;
    }

    public int remove(int key) throws IllegalArgumentException, IllegalStateException {
        requireKey(key);
        requireOpen();
        if (!sorted.holds(key)) {
            throw new IllegalStateException("the key is not there");
        }
        sorted.delete(key);
        return sorted.size;
    }

    public int keys() {
        return sorted.size;
    }

    public boolean has(int key) throws IllegalArgumentException {
        requireKey(key);
        return sorted.holds(key);
    }

    public int keyAt(int rank) throws IndexOutOfBoundsException {
        requireBelow(rank, sorted.size);
        return sorted.at(rank);
    }

    // ---- building

    public int build(int load, int bits) throws IllegalArgumentException, IllegalStateException {
        if (load < 1 || load > HIGHEST_LOAD) {
            throw new IllegalArgumentException("load is out of range");
        }
        if (bits < 1 || bits > MOST_BITS) {
            throw new IllegalArgumentException("bits is out of range");
        }
        requireOpen();
        if (sorted.size == 0) {
            throw new IllegalStateException("there are no keys");
        }
        if (!displacer.settle(sorted, load) || !graph.settle(sorted)) {
            throw new IllegalStateException("all seeds fail");
        }
        keepFingerprints(bits);
        packer.pack(displacer.displacements, displacer.bucketCount);
        built = true;
        return displacer.seed;
    }

    public void reopen() throws IllegalStateException {
        requireBuilt();
        built = false;
    }

    public boolean isBuilt() {
        return built;
    }

    // ---- looking up

    public int number(int key) throws IllegalArgumentException, IllegalStateException {
        requireKey(key);
        requireBuilt();
        return displacer.numberOf(key);
    }

    public int find(int key) throws IllegalArgumentException, IllegalStateException {
        requireKey(key);
        requireBuilt();
        return lookUp(key);
    }

    public int strangers(int from, int to) throws IllegalArgumentException, IllegalStateException {
        requireKey(from);
        requireKey(to);
        if (to < from || to - from > WIDEST_SPAN) {
            throw new IllegalArgumentException("to is out of range");
        }
        requireBuilt();
        int many = 0;
        for (int key = from; key <= to; key++) {
            // A key that is there is the very one that has its number.
            int number = lookUp(key);
            if (number != NONE && keyWithNumber(number) != key) {
                many++;
            }
        }
        return many;
    }

    public int keyOf(int number) throws IllegalStateException, IndexOutOfBoundsException {
        requireBuilt();
        requireBelow(number, sorted.size);
        return keyWithNumber(number);
    }

    public int fingerprint(int number) throws IllegalStateException, IndexOutOfBoundsException {
        requireBuilt();
        requireBelow(number, sorted.size);
        return fingerprints.get(number);
    }

    public int seed() throws IllegalStateException {
        requireBuilt();
        return displacer.seed;
    }

    public int buckets() throws IllegalStateException {
        requireBuilt();
        return displacer.bucketCount;
    }

    public int inBucket(int bucket) throws IllegalStateException, IndexOutOfBoundsException {
        requireBuilt();
        requireBelow(bucket, displacer.bucketCount);
        return displacer.ranksByBucket.sizeOf(bucket);
    }

    public int displacement(int bucket) throws IllegalStateException, IndexOutOfBoundsException {
        requireBuilt();
        requireBelow(bucket, displacer.bucketCount);
        return displacer.displacements.get(bucket);
    }

    public int width() throws IllegalStateException {
        requireBuilt();
        return packer.bitsEach;
    }

    public long word(int index) throws IllegalStateException, IndexOutOfBoundsException {
        requireBuilt();
        requireBelow(index, packer.wordCount);
        return packer.wordAt(index);
    }

    public int byGraph(int key) throws IllegalArgumentException, IllegalStateException {
        requireKey(key);
        requireBuilt();
        return graph.sumFor(key);
    }

    public int graphSeed() throws IllegalStateException {
        requireBuilt();
        return graph.seed;
    }

    public int valueOf(int vertex) throws IllegalStateException, IndexOutOfBoundsException {
        requireBuilt();
        requireBelow(vertex, graph.vertexCount);
        return graph.values.get(vertex);
    }

    // ---- what the calls require

    private static void requireKey(int key) {
        if (key < 0 || key > HIGHEST_KEY) {
            throw new IllegalArgumentException("a key is out of range");
        }
    }

    private static void requireLine(int first, int step, int many) {
        requireKey(first);
        if (step < 1 || step > HIGHEST_STEP) {
            throw new IllegalArgumentException("step is out of range");
        }
        if (many < 1 || many > LONGEST_LINE) {
            throw new IllegalArgumentException("many is out of range");
        }
        requireKey(first + (many - 1) * step);
    }

    private static void requireBelow(int index, int end) {
        if (index < 0 || index >= end) {
            throw new IndexOutOfBoundsException("there is none");
        }
    }

    private void requireRoomFor(int many) {
        if (sorted.size + many > MOST_KEYS) {
            throw new IllegalStateException("there would be too many keys");
        }
    }

    private void requireOpen() {
        if (built) {
            throw new IllegalStateException("the tables are built");
        }
    }

    private void requireBuilt() {
        if (!built) {
            throw new IllegalStateException("the tables are not built");
        }
    }

    // ---- parts of the calls

    private int newInLine(int first, int step, int many) {
        int fresh = 0;
        for (int i = 0; i < many; i++) {
            if (!sorted.holds(first + i * step)) {
                fresh++;
            }
        }
        return fresh;
    }

    private void keepFingerprints(int bits) {
        fingerprintMask = (1 << bits) - 1;
        for (int number = 0; number < sorted.size; number++) {
            fingerprints.set(number, fingerprintOf(keyWithNumber(number)));
        }
    }

    private int fingerprintOf(int key) {
        return Hash.FINGERPRINT.of(key, displacer.seed) & fingerprintMask;
    }

    private int keyWithNumber(int number) {
        return sorted.at(displacer.ranksByNumber.get(number));
    }

    private int lookUp(int key) {
        int number = displacer.numberOf(key);
        return fingerprints.get(number) == fingerprintOf(key) ? number : NONE;
    }

    // ---- arithmetic, for values that are not negative

    private static int remainder(int value, int divisor) {
        return divisor > 0 ? value % divisor : 0;
    }

    private static int dividedUp(int value, int divisor) {
        return divisor > 0 ? (value + divisor - 1) / divisor : 0;
    }

    /** The document's hashes 0 to 5, in its order, named by what they are for. */
    private enum Hash {
        BUCKET(9973, 7919, 11),
        START(104729, 15485, 101),
        STEP(31337, 27644, 1009),
        FINGERPRINT(611953, 39916, 10007),
        ONE_END(86243, 65537, 313),
        OTHER_END(756839, 44497, 2203);

        private final long perKey;
        private final long perSeed;
        private final long more;

        Hash(long perKey, long perSeed, long more) {
            this.perKey = perKey;
            this.perSeed = perSeed;
            this.more = more;
        }

        private int of(int key, int seed) {
            return (int) ((key * perKey + seed * perSeed + more) % HASH_PRIME);
        }
    }

    /** A row of ints. A place outside it reads 0 and is not written: no index makes it throw. */
    private static final class Row {
        private final int[] cells;

        private Row(int length) {
            cells = new int[Math.max(length, 0)];
        }

        private int get(int place) {
            return place >= 0 && place < cells.length ? cells[place] : 0;
        }

        private void set(int place, int value) {
            if (place >= 0 && place < cells.length) {
                cells[place] = value;
            }
        }

        private void fill(int value) {
            Arrays.fill(cells, value);
        }
    }

    /** The keys in rising order: the place of a key is its rank. */
    private static final class KeyList {
        private final Row places = new Row(MOST_KEYS);
        private int size;

        private int at(int rank) {
            return places.get(rank);
        }

        private int rankOf(int key) {
            int rank = 0;
            while (rank < size && places.get(rank) < key) {
                rank++;
            }
            return rank;
        }

        private boolean holds(int key) {
            int rank = rankOf(key);
            return rank < size && places.get(rank) == key;
        }

        private void insert(int key) {
            int rank = rankOf(key);
            for (int i = size; i > rank; i--) {
                places.set(i, places.get(i - 1));
            }
            places.set(rank, key);
            size++;
        }

        private void delete(int key) {
            for (int i = rankOf(key) + 1; i < size; i++) {
                places.set(i - 1, places.get(i));
            }
            size--;
        }
    }

    /** Things 0, 1, 2 and so on in groups; once arranged, those of a group stand side by side. */
    private static final class Groups {
        private final Row groups;
        private final Row begins;
        private final Row members;
        private int thingCount;
        private int groupCount;

        private Groups(int mostThings, int mostGroups) {
            groups = new Row(mostThings);
            begins = new Row(mostGroups + 1);
            members = new Row(mostThings);
        }

        private void restart(int manyThings, int manyGroups) {
            thingCount = manyThings;
            groupCount = manyGroups;
            begins.fill(0);
        }

        private void assign(int thing, int group) {
            groups.set(thing, group);
            begins.set(group, begins.get(group) + 1);
        }

        // Until now begins holds the sizes. First it gets the ends of the groups; each thing that
        // is put in its place, from the last one down, then moves the begin of its group ahead.
        private void arrange() {
            int end = 0;
            for (int group = 0; group <= groupCount; group++) {
                end += begins.get(group);
                begins.set(group, end);
            }
            for (int thing = thingCount - 1; thing >= 0; thing--) {
                int group = groups.get(thing);
                int place = begins.get(group) - 1;
                begins.set(group, place);
                members.set(place, thing);
            }
        }

        private int groupOf(int thing) {
            return groups.get(thing);
        }

        private int beginOf(int group) {
            return begins.get(group);
        }

        private int endOf(int group) {
            return begins.get(group + 1);
        }

        private int sizeOf(int group) {
            return endOf(group) - beginOf(group);
        }

        private int memberAt(int place) {
            return members.get(place);
        }
    }

    /** The buckets, their displacements, and which key has which number. */
    private static final class Displacer {
        private final Groups ranksByBucket = new Groups(MOST_KEYS, MOST_KEYS);
        private final Row starts = new Row(MOST_KEYS);
        private final Row steps = new Row(MOST_KEYS);
        private final Row numbers = new Row(MOST_KEYS);
        private final Row displacements = new Row(MOST_KEYS);
        private final Row ranksByNumber = new Row(MOST_KEYS);
        private int keyCount;
        private int bucketCount;
        private int seed;

        /** Takes the least seed that does not fail; false if all fail. */
        private boolean settle(KeyList list, int load) {
            keyCount = list.size;
            bucketCount = dividedUp(keyCount, load);
            for (int candidate = 0; candidate < SEEDS; candidate++) {
                seed = candidate;
                hashKeys(list);
                if (displaceAll()) {
                    return true;
                }
            }
            return false;
        }

        private void hashKeys(KeyList list) {
            ranksByBucket.restart(keyCount, bucketCount);
            for (int rank = 0; rank < keyCount; rank++) {
                int key = list.at(rank);
                ranksByBucket.assign(rank, bucketOf(key));
                starts.set(rank, Hash.START.of(key, seed));
                steps.set(rank, stepOf(key));
            }
            ranksByBucket.arrange();
        }

        private boolean displaceAll() {
            displacements.fill(0);
            ranksByNumber.fill(NONE);
            for (int size = largestBucket(); size > 0; size--) {
                for (int bucket = 0; bucket < bucketCount; bucket++) {
                    if (ranksByBucket.sizeOf(bucket) == size && !displace(bucket)) {
                        return false;
                    }
                }
            }
            return true;
        }

        private int largestBucket() {
            int largest = 0;
            for (int bucket = 0; bucket < bucketCount; bucket++) {
                largest = Math.max(largest, ranksByBucket.sizeOf(bucket));
            }
            return largest;
        }

        private boolean displace(int bucket) {
            // d and d + n lead to the same numbers: the first n displacements stand for all.
            int tries = Math.min(DISPLACEMENTS, keyCount);
            for (int displacement = 0; displacement < tries; displacement++) {
                if (place(bucket, displacement)) {
                    displacements.set(bucket, displacement);
                    return true;
                }
            }
            return false;
        }

        /** Gives the keys of a bucket their numbers, or none of them if one is taken. */
        private boolean place(int bucket, int displacement) {
            int begin = ranksByBucket.beginOf(bucket);
            int end = ranksByBucket.endOf(bucket);
            for (int i = begin; i < end; i++) {
                int rank = ranksByBucket.memberAt(i);
                int number = numberWith(rank, displacement);
                if (ranksByNumber.get(number) != NONE) {
                    takeBack(begin, i);
                    return false;
                }
                ranksByNumber.set(number, rank);
                numbers.set(rank, number);
            }
            return true;
        }

        private void takeBack(int begin, int end) {
            for (int i = begin; i < end; i++) {
                int rank = ranksByBucket.memberAt(i);
                ranksByNumber.set(numbers.get(rank), NONE);
            }
        }

        private int numberWith(int rank, int displacement) {
            return remainder(starts.get(rank) + displacement * steps.get(rank), keyCount);
        }

        private int numberOf(int key) {
            int way = displacements.get(bucketOf(key)) * stepOf(key);
            return remainder(Hash.START.of(key, seed) + way, keyCount);
        }

        private int bucketOf(int key) {
            return remainder(Hash.BUCKET.of(key, seed), bucketCount);
        }

        private int stepOf(int key) {
            return keyCount > 1 ? 1 + remainder(Hash.STEP.of(key, seed), keyCount - 1) : 1;
        }
    }

    /** Numbers of equal width, one behind the other in words of 64 bits. */
    private static final class Packer {
        private final long[] words =
                new long[(MOST_KEYS * WIDEST_DISPLACEMENT + WORD_BITS - 1) / WORD_BITS];
        private int bitsEach;
        private int wordCount;

        private void pack(Row numbers, int many) {
            Arrays.fill(words, 0L);
            bitsEach = widthFor(greatest(numbers, many));
            wordCount = dividedUp(many * bitsEach, WORD_BITS);
            for (int i = 0; i < many; i++) {
                write(i * bitsEach, numbers.get(i));
            }
        }

        private static int greatest(Row numbers, int many) {
            int greatest = 0;
            for (int i = 0; i < many; i++) {
                greatest = Math.max(greatest, numbers.get(i));
            }
            return greatest;
        }

        private static int widthFor(int greatest) {
            int bits = 1;
            while (bits < WIDEST_DISPLACEMENT && (greatest >> bits) > 0) {
                bits++;
            }
            return bits;
        }

        private void write(int bit, long number) {
            int index = bit / WORD_BITS;
            int low = bit % WORD_BITS;
            join(index, number << low);
            if (low + bitsEach > WORD_BITS) {
                join(index + 1, number >>> (WORD_BITS - low));
            }
        }

        private void join(int index, long bits) {
            if (index >= 0 && index < words.length) {
                words[index] |= bits;
            }
        }

        private long wordAt(int index) {
            return index >= 0 && index < words.length ? words[index] : 0L;
        }
    }

    /**
     * The graph, an edge for each key. The edge of the key with rank r has the ends 2r and 2r + 1,
     * and the ends are grouped by the vertices that they are at.
     */
    private static final class Graph {
        private final Groups ends = new Groups(2 * MOST_KEYS, VERTICES_PER_KEY * MOST_KEYS);
        private final Row walked = new Row(MOST_KEYS);
        private final Row values = new Row(VERTICES_PER_KEY * MOST_KEYS);
        private final Row reached = new Row(VERTICES_PER_KEY * MOST_KEYS);
        private int reachedCount;
        private int keyCount;
        private int vertexCount;
        private int seed;

        /** Takes the least seed that does not fail; false if all fail. */
        private boolean settle(KeyList list) {
            keyCount = list.size;
            vertexCount = VERTICES_PER_KEY * keyCount;
            for (int candidate = 0; candidate < GRAPH_SEEDS; candidate++) {
                seed = candidate;
                layEdges(list);
                if (giveValues()) {
                    return true;
                }
            }
            return false;
        }

        private void layEdges(KeyList list) {
            ends.restart(2 * keyCount, vertexCount);
            for (int rank = 0; rank < keyCount; rank++) {
                int key = list.at(rank);
                ends.assign(2 * rank, vertexOf(Hash.ONE_END, key));
                ends.assign(2 * rank + 1, vertexOf(Hash.OTHER_END, key));
            }
            ends.arrange();
        }

        /** False if there is a circle. A vertex without a value has not been reached yet. */
        private boolean giveValues() {
            values.fill(NONE);
            walked.fill(0);
            for (int vertex = 0; vertex < vertexCount; vertex++) {
                if (values.get(vertex) == NONE && !walkFrom(vertex)) {
                    return false;
                }
            }
            return true;
        }

        /** Walks a connected part from its lowest vertex on; false if it comes upon a circle. */
        private boolean walkFrom(int lowest) {
            reachedCount = 0;
            reach(lowest, 0);
            for (int i = 0; i < reachedCount && i < vertexCount; i++) {
                if (!walkOn(reached.get(i))) {
                    return false;
                }
            }
            return true;
        }

        private boolean walkOn(int vertex) {
            for (int i = ends.beginOf(vertex); i < ends.endOf(vertex); i++) {
                int end = ends.memberAt(i);
                int rank = end >> 1;
                if (walked.get(rank) == 0) {
                    walked.set(rank, 1);
                    // The other end of an edge differs from this one in the lowest bit alone.
                    int next = ends.groupOf(end ^ 1);
                    if (values.get(next) != NONE) {
                        return false;
                    }
                    reach(next, remainder(rank - values.get(vertex) + keyCount, keyCount));
                }
            }
            return true;
        }

        private void reach(int vertex, int value) {
            values.set(vertex, value);
            reached.set(reachedCount, vertex);
            reachedCount++;
        }

        private int vertexOf(Hash hash, int key) {
            return remainder(hash.of(key, seed), vertexCount);
        }

        private int sumFor(int key) {
            int one = values.get(vertexOf(Hash.ONE_END, key));
            int other = values.get(vertexOf(Hash.OTHER_END, key));
            return remainder(one + other, keyCount);
        }
    }
}
