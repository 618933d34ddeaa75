import java.math.BigInteger;
import java.util.ArrayList;
import java.util.HashSet;
import java.util.List;
import java.util.Map;
import java.util.Set;
import java.util.TreeMap;
import java.util.TreeSet;

/** The document once more, as slowly and as near to its words as can be. */
public final class PlainModel {
    private static final long[][] HASHES = {
        {9973, 7919, 11}, {104729, 15485, 101}, {31337, 27644, 1009},
        {611953, 39916, 10007}, {86243, 65537, 313}, {756839, 44497, 2203}};

    private final TreeSet<Integer> set = new TreeSet<>();
    private Tables tables = null;

    /** What a build makes. */
    private static final class Tables {
        private int n;
        private int bits;
        private int seed;
        private final List<List<Integer>> buckets = new ArrayList<>();
        private final List<Integer> displacements = new ArrayList<>();
        private final TreeMap<Integer, Integer> keyByNumber = new TreeMap<>();
        private int graphSeed;
        private final TreeMap<Integer, Integer> values = new TreeMap<>();
    }

    static int hash(int which, int key, int seed) {
        long[] by = HASHES[which];
        return (int) ((key * by[0] + seed * by[1] + by[2]) % 1000003L);
    }

    private static void argument(boolean fine) {
        if (!fine) {
            throw new IllegalArgumentException();
        }
    }

    private static void state(boolean fine) {
        if (!fine) {
            throw new IllegalStateException();
        }
    }

    private static void index(boolean fine) {
        if (!fine) {
            throw new IndexOutOfBoundsException();
        }
    }

    private static void range(int value, int least, int greatest) {
        argument(value >= least && value <= greatest);
    }

    public int add(int key) {
        range(key, 0, 99999);
        state(tables == null && !set.contains(key) && set.size() < 120);
        set.add(key);
        return set.size();
    }

    public int addLine(int first, int step, int many) {
        range(first, 0, 99999);
        range(step, 1, 9999);
        range(many, 1, 40);
        TreeSet<Integer> then = new TreeSet<>(set);
        for (int i = 0; i < many; i++) {
            range(first + i * step, 0, 99999);
            then.add(first + i * step);
        }
        state(tables == null && then.size() <= 120);
        set.addAll(then);
        return set.size();
    }

    public int remove(int key) {
        range(key, 0, 99999);
        state(tables == null && set.contains(key));
        set.remove(key);
        return set.size();
    }

    public int keys() {
        return set.size();
    }

    public boolean has(int key) {
        range(key, 0, 99999);
        return set.contains(key);
    }

    public int keyAt(int rank) {
        index(rank >= 0 && rank < set.size());
        return new ArrayList<>(set).get(rank);
    }

    public int build(int load, int bits) {
        range(load, 1, 6);
        range(bits, 1, 12);
        state(tables == null && !set.isEmpty());
        Tables made = displaced(load);
        state(made != null);
        state(drawn(made));
        made.bits = bits;
        tables = made;
        return made.seed;
    }

    private Tables displaced(int load) {
        for (int seed = 0; seed <= 39; seed++) {
            Tables made = new Tables();
            made.n = set.size();
            made.seed = seed;
            int many = made.n / load + (made.n % load > 0 ? 1 : 0);
            for (int b = 0; b < many; b++) {
                made.buckets.add(new ArrayList<>());
                made.displacements.add(0);
            }
            for (int key : set) {
                made.buckets.get(hash(0, key, seed) % many).add(key);
            }
            if (displacesAll(made)) {
                return made;
            }
        }
        return null;
    }

    private static boolean displacesAll(Tables made) {
        List<Integer> order = new ArrayList<>();
        for (int b = 0; b < made.buckets.size(); b++) {
            order.add(b);
        }
        order.sort((x, y) -> made.buckets.get(y).size() - made.buckets.get(x).size());
        for (int bucket : order) {
            int d = leastDisplacement(made, made.buckets.get(bucket));
            if (d > 511) {
                return false;
            }
            made.displacements.set(bucket, d);
            for (int key : made.buckets.get(bucket)) {
                made.keyByNumber.put(numberWith(made, key, d), key);
            }
        }
        return true;
    }

    private static int leastDisplacement(Tables made, List<Integer> keys) {
        int d = 0;
        while (d <= 511 && !fits(made, keys, d)) {
            d++;
        }
        return d;
    }

    private static boolean fits(Tables made, List<Integer> keys, int d) {
        Set<Integer> numbers = new HashSet<>();
        for (int key : keys) {
            int number = numberWith(made, key, d);
            if (made.keyByNumber.containsKey(number) || !numbers.add(number)) {
                return false;
            }
        }
        return true;
    }

    private static int numberWith(Tables made, int key, int d) {
        int step = made.n == 1 ? 1 : 1 + hash(2, key, made.seed) % (made.n - 1);
        return (hash(1, key, made.seed) + d * step) % made.n;
    }

    private boolean drawn(Tables made) {
        for (int seed = 0; seed <= 199; seed++) {
            if (hasNoCircle(seed)) {
                made.graphSeed = seed;
                giveValues(made);
                return true;
            }
        }
        return false;
    }

    private int vertex(int which, int key, int seed) {
        return hash(which, key, seed) % (3 * set.size());
    }

    // A graph has no circle if each of its edges joins two parts that were apart before.
    private boolean hasNoCircle(int seed) {
        int[] part = new int[3 * set.size()];
        for (int v = 0; v < part.length; v++) {
            part[v] = v;
        }
        for (int key : set) {
            int one = part[vertex(4, key, seed)];
            int other = part[vertex(5, key, seed)];
            if (one == other) {
                return false;
            }
            for (int v = 0; v < part.length; v++) {
                part[v] = part[v] == other ? one : part[v];
            }
        }
        return true;
    }

    private void giveValues(Tables made) {
        for (int v = 0; v < 3 * made.n; v++) {
            if (!made.values.containsKey(v)) {
                made.values.put(v, 0);
                while (spreads(made)) {
                    continue;
                }
            }
        }
    }

    private boolean spreads(Tables made) {
        int before = made.values.size();
        int rank = 0;
        for (int key : set) {
            int one = vertex(4, key, made.graphSeed);
            int other = vertex(5, key, made.graphSeed);
            spread(made.values, one, other, rank, made.n);
            spread(made.values, other, one, rank, made.n);
            rank++;
        }
        return made.values.size() > before;
    }

    private static void spread(Map<Integer, Integer> values, int from, int to, int rank, int n) {
        if (values.containsKey(from) && !values.containsKey(to)) {
            for (int value = 0; value < n; value++) {
                if ((values.get(from) + value) % n == rank) {
                    values.put(to, value);
                }
            }
        }
    }

    public void reopen() {
        state(tables != null);
        tables = null;
    }

    public boolean isBuilt() {
        return tables != null;
    }

    public int number(int key) {
        range(key, 0, 99999);
        state(tables != null);
        int bucket = hash(0, key, tables.seed) % tables.buckets.size();
        return numberWith(tables, key, tables.displacements.get(bucket));
    }

    private int print(int key) {
        int power = 1;
        for (int i = 0; i < tables.bits; i++) {
            power *= 2;
        }
        return hash(3, key, tables.seed) % power;
    }

    public int find(int key) {
        int number = number(key);
        return print(tables.keyByNumber.get(number)) == print(key) ? number : -1;
    }

    public int strangers(int from, int to) {
        range(from, 0, 99999);
        range(to, from, 99999);
        range(to - from, 0, 4999);
        state(tables != null);
        int many = 0;
        for (int key = from; key <= to; key++) {
            many += set.contains(key) || find(key) == -1 ? 0 : 1;
        }
        return many;
    }

    public int keyOf(int number) {
        state(tables != null);
        index(number >= 0 && number < tables.n);
        return tables.keyByNumber.get(number);
    }

    public int fingerprint(int number) {
        return print(keyOf(number));
    }

    public int seed() {
        state(tables != null);
        return tables.seed;
    }

    public int buckets() {
        state(tables != null);
        return tables.buckets.size();
    }

    public int inBucket(int bucket) {
        state(tables != null);
        index(bucket >= 0 && bucket < tables.buckets.size());
        return tables.buckets.get(bucket).size();
    }

    public int displacement(int bucket) {
        state(tables != null);
        index(bucket >= 0 && bucket < tables.buckets.size());
        return tables.displacements.get(bucket);
    }

    public int width() {
        state(tables != null);
        int greatest = 0;
        for (int d : tables.displacements) {
            greatest = Math.max(greatest, d);
        }
        return Math.max(1, Integer.toBinaryString(greatest).length());
    }

    public long word(int index) {
        int width = width();
        BigInteger all = BigInteger.ZERO;
        for (int b = tables.buckets.size() - 1; b >= 0; b--) {
            all = all.shiftLeft(width).add(BigInteger.valueOf(tables.displacements.get(b)));
        }
        index(index >= 0 && 64L * index < (long) width * tables.buckets.size());
        return all.shiftRight(64 * index).longValue();
    }

    public int byGraph(int key) {
        range(key, 0, 99999);
        state(tables != null);
        int one = tables.values.get(vertex(4, key, tables.graphSeed));
        int other = tables.values.get(vertex(5, key, tables.graphSeed));
        return (one + other) % tables.n;
    }

    public int graphSeed() {
        state(tables != null);
        return tables.graphSeed;
    }

    public int valueOf(int vertex) {
        state(tables != null);
        index(vertex >= 0 && vertex < 3 * tables.n);
        return tables.values.get(vertex);
    }
}
