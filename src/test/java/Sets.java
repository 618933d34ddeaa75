/** Sets of keys that tests share, and rows of answers read out of an object. */
final class Sets {
    /** With load 2 it builds with graph seed 199. */
    static final int[] LAST_GRAPH_SEED = {20871, 28224, 34935, 42058, 63657, 86965};
    /** With load 2 graph seed 200 alone would do. */
    static final int[] NO_GRAPH_SEED = {5897, 11835, 19336, 27743, 36523, 51205};

    private Sets() {
    }

    static PerfectPew of(int... keys) {
        PerfectPew pew = new PerfectPew();
        for (int key : keys) {
            pew.add(key);
        }
        return pew;
    }

    static PerfectPew line(int first, int step, int many) {
        PerfectPew pew = new PerfectPew();
        pew.addLine(first, step, many);
        return pew;
    }

    /** 100, 107, 114, 121, 128, 135 with load 2 and 8 bits. */
    static PerfectPew six() {
        return built(open(), 2, 8);
    }

    /** 20 keys in 7 buckets, with 10 bits: seed 15, graph seed 1, displacements up to 13. */
    static PerfectPew twenty() {
        return built(line(50, 3001, 20), 3, 10);
    }

    /** 120 keys in 60 buckets of 0 to 5 keys, with 12 bits: seed 19, displacements up to 53. */
    static PerfectPew full() {
        return built(lines(76579, 15, 59257, 345, 44694, 938), 2, 12);
    }

    /** 120 keys: three lines of 40. */
    static PerfectPew lines(int first, int step, int second, int by, int third, int byThen) {
        PerfectPew pew = line(first, step, 40);
        pew.addLine(second, by, 40);
        pew.addLine(third, byThen, 40);
        return pew;
    }

    /** 120 keys in 120 buckets, of which the last one is displaced by 119. */
    static PerfectPew widest() {
        return built(lines(6360, 107, 5850, 769, 56993, 424), 1, 12);
    }

    static PerfectPew open() {
        return line(100, 7, 6);
    }

    static PerfectPew reopened() {
        PerfectPew pew = six();
        pew.reopen();
        return pew;
    }

    /** 17 keys, open: with load 4 no seed up to 39 does for displacing. */
    static PerfectPew failed() {
        PerfectPew pew = line(135, 8, 17);
        Check.refusesState("the build that fails", () -> pew.build(4, 8));
        return pew;
    }

    /** 120 keys, open: 0 to 39, 1000 to 1078 by twos, 2000 to 2117 by threes. */
    static PerfectPew fullOfKeys() {
        PerfectPew pew = line(0, 1, 40);
        pew.addLine(1000, 2, 40);
        pew.addLine(2000, 3, 40);
        return pew;
    }

    static PerfectPew built(PerfectPew pew, int load, int bits) {
        pew.build(load, bits);
        return pew;
    }

    static int[] ranked(PerfectPew pew) {
        int[] keys = new int[pew.keys()];
        for (int rank = 0; rank < keys.length; rank++) {
            keys[rank] = pew.keyAt(rank);
        }
        return keys;
    }

    static int[] numbered(PerfectPew pew) {
        int[] keys = new int[pew.keys()];
        for (int number = 0; number < keys.length; number++) {
            keys[number] = pew.keyOf(number);
        }
        return keys;
    }

    static int[] fingerprints(PerfectPew pew) {
        int[] prints = new int[pew.keys()];
        for (int number = 0; number < prints.length; number++) {
            prints[number] = pew.fingerprint(number);
        }
        return prints;
    }

    static int[] bucketSizes(PerfectPew pew) {
        int[] sizes = new int[pew.buckets()];
        for (int bucket = 0; bucket < sizes.length; bucket++) {
            sizes[bucket] = pew.inBucket(bucket);
        }
        return sizes;
    }

    static int[] displacements(PerfectPew pew) {
        int[] row = new int[pew.buckets()];
        for (int bucket = 0; bucket < row.length; bucket++) {
            row[bucket] = pew.displacement(bucket);
        }
        return row;
    }

    static int[] values(PerfectPew pew) {
        int[] row = new int[3 * pew.keys()];
        for (int vertex = 0; vertex < row.length; vertex++) {
            row[vertex] = pew.valueOf(vertex);
        }
        return row;
    }
}
