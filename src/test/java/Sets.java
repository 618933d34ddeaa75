/** Sets of keys that tests share, and rows of answers read out of an object. */
final class Sets {
    private Sets() {
    }

    static PerfectPew of(int... keys) {
        PerfectPew pew = new PerfectPew();
        for (int key : keys) {
            pew.add(key);
        }
        return pew;
    }

    static PerfectPew line(int first, int step, int many) {
        PerfectPew pew = new PerfectPew();
        pew.addLine(first, step, many);
        return pew;
    }

    /** 100, 107, 114, 121, 128, 135 with load 2 and 8 bits. */
    static PerfectPew six() {
        PerfectPew pew = line(100, 7, 6);
        pew.build(2, 8);
        return pew;
    }

    /** 120 keys in 60 buckets of 0 to 5 keys, with 12 bits: seed 19, displacements up to 53. */
    static PerfectPew full() {
        PerfectPew pew = line(76579, 15, 40);
        pew.addLine(59257, 345, 40);
        pew.addLine(44694, 938, 40);
        pew.build(2, 12);
        return pew;
    }

    static int[] ranked(PerfectPew pew) {
        int[] keys = new int[pew.keys()];
        for (int rank = 0; rank < keys.length; rank++) {
            keys[rank] = pew.keyAt(rank);
        }
        return keys;
    }

    static int[] numbered(PerfectPew pew) {
        int[] keys = new int[pew.keys()];
        for (int number = 0; number < keys.length; number++) {
            keys[number] = pew.keyOf(number);
        }
        return keys;
    }

    static int[] fingerprints(PerfectPew pew) {
        int[] prints = new int[pew.keys()];
        for (int number = 0; number < prints.length; number++) {
            prints[number] = pew.fingerprint(number);
        }
        return prints;
    }

    static int[] bucketSizes(PerfectPew pew) {
        int[] sizes = new int[pew.buckets()];
        for (int bucket = 0; bucket < sizes.length; bucket++) {
            sizes[bucket] = pew.inBucket(bucket);
        }
        return sizes;
    }

    static int[] displacements(PerfectPew pew) {
        int[] row = new int[pew.buckets()];
        for (int bucket = 0; bucket < row.length; bucket++) {
            row[bucket] = pew.displacement(bucket);
        }
        return row;
    }

    static int[] values(PerfectPew pew) {
        int[] row = new int[3 * pew.keys()];
        for (int vertex = 0; vertex < row.length; vertex++) {
            row[vertex] = pew.valueOf(vertex);
        }
        return row;
    }
}
