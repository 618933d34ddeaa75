/** The boundary cases that promises 11 to 15 name. */
final class LookupBoundaries {
    private static final String KEY = "- `key`: 0 to 99999";
    private static final String KEY_REFUSED =
            "Throws `IllegalArgumentException` if key is out of range";
    private static final String UNBUILT =
            "Throws `IllegalStateException` if the tables are not built";
    private static final String NUMBER = "- `number`: 0 to keys() - 1";
    private static final String NO_NUMBER =
            "Throws `IndexOutOfBoundsException` if there is no such number";

    private LookupBoundaries() {
    }

    static void test() {
        number();
        find();
        strangers();
        Boundary.test("Promise 14", NUMBER, LookupBoundaries::firstAndLastNumber);
        Boundary.test("Promise 14", UNBUILT, LookupBoundaries::keyOfUnbuilt);
        Boundary.test("Promise 14", NO_NUMBER, LookupBoundaries::keyOfRefusesNumbers);
        Boundary.test("Promise 15", NUMBER, LookupBoundaries::fingerprintOfFirstAndLast);
        Boundary.test("Promise 15", "Returns 0 to 4095.",
                LookupBoundaries::leastAndGreatestFingerprint);
        Boundary.test("Promise 15", UNBUILT, LookupBoundaries::fingerprintUnbuilt);
        Boundary.test("Promise 15", NO_NUMBER, LookupBoundaries::fingerprintRefusesNumbers);
    }

    // ---- number

    private static void number() {
        Boundary.test("Promise 11", KEY, LookupBoundaries::numberOfLowestAndHighest);
        Boundary.test("Promise 11", "Returns 0 to keys() - 1.", LookupBoundaries::numbersInRange);
        Boundary.test("Promise 11", KEY_REFUSED, LookupBoundaries::numberRefusesKeys);
        Boundary.test("Promise 11", UNBUILT, LookupBoundaries::numberUnbuilt);
    }

    private static void numberOfLowestAndHighest() {
        PerfectPew two = Sets.built(Sets.of(0, 99999), 1, 8);
        Check.same("number(0), its own", two.number(0), 1);
        Check.same("number(99999), its own", two.number(99999), 0);
        PerfectPew six = Sets.six();
        Check.same("number(0) of a stranger", six.number(0), 4);
        Check.same("number(99999) of a stranger", six.number(99999), 2);
        PerfectPew widest = Sets.widest();
        Check.same("number(0) with 120 keys", widest.number(0), 81);
        Check.same("number(99999) with 120 keys", widest.number(99999), 41);
    }

    private static void numbersInRange() {
        PerfectPew one = Sets.built(Sets.of(5), 1, 1);
        PerfectPew two = Sets.built(Sets.of(5, 6), 6, 12);
        PerfectPew widest = Sets.widest();
        for (int key = 0; key < 100000; key += 999) {
            Check.same("number(" + key + ") of one", one.number(key), 0);
            Check.same("number(" + key + ") of two", two.number(key) >> 1, 0);
            int number = widest.number(key);
            Check.same("number(" + key + ") of 120", number >= 0 && number < 120, true);
        }
        Check.same("the key with number 0 of 120", widest.number(9035), 0);
        Check.same("the key with number 119", widest.number(70137), 119);
        Check.same("a stranger with number 0", widest.number(46), 0);
        Check.same("a stranger with number 119", widest.number(9), 119);
    }

    private static void numberRefusesKeys() {
        for (int key : Boundary.WRONG_KEYS) {
            Boundary.refusedAlways("number(" + key + ")", pew -> pew.number(key));
        }
    }

    private static void numberUnbuilt() {
        Boundary.refusedUnbuilt("number(0)", pew -> pew.number(0));
        Boundary.refusedUnbuilt("number(100)", pew -> pew.number(100));
        Boundary.refusedUnbuilt("number(99999)", pew -> pew.number(99999));
    }

    // ---- find

    private static void find() {
        Boundary.test("Promise 12", KEY, LookupBoundaries::findLowestAndHighest);
        Boundary.test("Promise 12", "Returns the number; NONE if the fingerprints are not the same.",
                LookupBoundaries::findNone);
        Boundary.test("Promise 12", KEY_REFUSED, LookupBoundaries::findRefusesKeys);
        Boundary.test("Promise 12", UNBUILT, LookupBoundaries::findUnbuilt);
    }

    private static void findLowestAndHighest() {
        PerfectPew two = Sets.built(Sets.of(0, 99999), 1, 8);
        Check.same("find(0), its own", two.find(0), 1);
        Check.same("find(99999), its own", two.find(99999), 0);
        Check.same("find(0) of a stranger", Sets.built(Sets.of(5), 1, 1).find(0), 0);
        Check.same("find(99999) of a stranger", Sets.built(Sets.of(6), 1, 1).find(99999), 0);
    }

    private static void findNone() {
        PerfectPew six = Sets.six();
        Check.same("a key", six.find(135), 1);
        Check.same("a stranger with the fingerprint", six.find(43), 5);
        Check.same("a stranger without", six.find(44), PerfectPew.NONE);
        Check.same("find(0)", six.find(0), PerfectPew.NONE);
        Check.same("find(99999)", six.find(99999), PerfectPew.NONE);
        PerfectPew widest = Sets.widest();
        for (int rank = 0; rank < 120; rank++) {
            int key = widest.keyAt(rank);
            Check.same("find(" + key + ") of 120", widest.find(key), widest.number(key));
        }
    }

    private static void findRefusesKeys() {
        for (int key : Boundary.WRONG_KEYS) {
            Boundary.refusedAlways("find(" + key + ")", pew -> pew.find(key));
        }
    }

    private static void findUnbuilt() {
        Boundary.refusedUnbuilt("find(0)", pew -> pew.find(0));
        Boundary.refusedUnbuilt("find(100)", pew -> pew.find(100));
        Boundary.refusedUnbuilt("find(99999)", pew -> pew.find(99999));
    }

    // ---- strangers

    private static void strangers() {
        Boundary.test("Promise 13", "Counts the strangers, from a key on up to another one, for"
                + " which find() does not tell NONE.", LookupBoundaries::bothEndsCount);
        Boundary.test("Promise 13", "- `from`: 0 to 99999", LookupBoundaries::lowestAndHighestFrom);
        Boundary.test("Promise 13", "- `to`: from to 99999, at most 4999 above from",
                LookupBoundaries::nearestAndFarthestTo);
        Boundary.test("Promise 13",
                "Throws `IllegalArgumentException` if from or to is out of range",
                LookupBoundaries::strangersRefusesSpans);
        Boundary.test("Promise 13", UNBUILT, LookupBoundaries::strangersUnbuilt);
    }

    private static void bothEndsCount() {
        PerfectPew six = Sets.six();
        Check.same("63 to 65, of which 64 is found", six.strangers(63, 65), 1);
        Check.same("64 to 185, both found", six.strangers(64, 185), 2);
        Check.same("65 to 184", six.strangers(65, 184), 0);
        Check.same("a key is no stranger", six.strangers(100, 100), 0);
        Check.same("from a key to a key", six.strangers(100, 135), 0);
        Check.same("with fewer bits more are found", Sets.built(Sets.open(), 2, 1)
                .strangers(0, 999), 503);
        Check.same("120 keys with 12 bits", Sets.full().strangers(30000, 34999), 3);
    }

    private static void lowestAndHighestFrom() {
        Check.same("0 alone", Sets.built(Sets.of(5), 1, 1).strangers(0, 0), 1);
        Check.same("0 alone, not found", Sets.six().strangers(0, 0), 0);
        Check.same("99999 alone", Sets.built(Sets.of(6), 1, 1).strangers(99999, 99999), 1);
        Check.same("99999 alone, not found", Sets.six().strangers(99999, 99999), 0);
    }

    private static void nearestAndFarthestTo() {
        PerfectPew five = Sets.built(Sets.of(5), 1, 1);
        Check.same("4999 above 0", five.strangers(0, 4999), 2497);
        Check.same("4998 above 0", five.strangers(0, 4998), 2496);
        Check.same("4998 above 1", five.strangers(1, 4999), 2496);
        PerfectPew six = Sets.built(Sets.of(6), 1, 1);
        Check.same("from 95000 to 99999", six.strangers(95000, 99999), 2498);
        Check.same("from 99998 to 99999", six.strangers(99998, 99999), 2);
        Check.same("to where it begins", six.strangers(6, 6), 0);
    }

    private static void strangersRefusesSpans() {
        for (int key : Boundary.WRONG_KEYS) {
            Boundary.refusedAlways("from " + key + " on", pew -> pew.strangers(key, 99999));
            Boundary.refusedAlways("up to " + key, pew -> pew.strangers(0, key));
            Boundary.refusedAlways(key + " alone", pew -> pew.strangers(key, key));
        }
        Boundary.refusedAlways("from -1, near enough", pew -> pew.strangers(-1, 0));
        Boundary.refusedAlways("up to 100000, near enough", pew -> pew.strangers(99999, 100000));
        Boundary.refusedAlways("up to one below", pew -> pew.strangers(10, 9));
        Boundary.refusedAlways("from the highest to the lowest", pew -> pew.strangers(99999, 0));
        Boundary.refusedAlways("5000 above 0", pew -> pew.strangers(0, 5000));
        Boundary.refusedAlways("5000 above 94999", pew -> pew.strangers(94999, 99999));
        Boundary.refusedAlways("all keys", pew -> pew.strangers(0, 99999));
        Boundary.refusedAlways("a span beyond int",
                pew -> pew.strangers(Integer.MIN_VALUE, Integer.MAX_VALUE));
    }

    private static void strangersUnbuilt() {
        Boundary.refusedUnbuilt("strangers(0, 0)", pew -> pew.strangers(0, 0));
        Boundary.refusedUnbuilt("strangers(95000, 99999)", pew -> pew.strangers(95000, 99999));
    }

    // ---- keyOf and fingerprint

    private static void firstAndLastNumber() {
        PerfectPew one = Sets.built(Sets.of(99999), 6, 12);
        Check.same("of one", one.keyOf(0), 99999);
        PerfectPew six = Sets.six();
        Check.same("0 of six", six.keyOf(0), 107);
        Check.same("5 of six", six.keyOf(5), 100);
        PerfectPew widest = Sets.widest();
        Check.same("0 of 120", widest.keyOf(0), 9035);
        Check.same("119 of 120", widest.keyOf(119), 70137);
    }

    private static void keyOfUnbuilt() {
        for (int number : new int[] {0, 5, 6, 120, -1, Integer.MIN_VALUE, Integer.MAX_VALUE}) {
            Boundary.refusedUnbuilt("keyOf(" + number + ")", pew -> pew.keyOf(number));
        }
    }

    private static void keyOfRefusesNumbers() {
        Boundary.refusedOutside("keyOf", 6, PerfectPew::keyOf);
        Boundary.refused("keyOf(1) of one", Boundary.INDEX,
                () -> Sets.built(Sets.of(5), 1, 1), pew -> pew.keyOf(1));
        Boundary.refused("keyOf(120) of 120", Boundary.INDEX, Sets::full, pew -> pew.keyOf(120));
        Boundary.refused("keyOf(5), once there are five", Boundary.INDEX,
                LookupBoundaries::oneLess, pew -> pew.keyOf(5));
    }

    /** The five keys that are left of Sets.six(), built anew. */
    static PerfectPew oneLess() {
        PerfectPew pew = Sets.reopened();
        pew.remove(135);
        return Sets.built(pew, 1, 8);
    }

    private static void fingerprintOfFirstAndLast() {
        PerfectPew six = Sets.six();
        Check.same("0 of six", six.fingerprint(0), 59);
        Check.same("5 of six", six.fingerprint(5), 48);
        PerfectPew full = Sets.full();
        Check.same("0 of 120", full.fingerprint(0), 2882);
        Check.same("119 of 120", full.fingerprint(119), 620);
    }

    private static void leastAndGreatestFingerprint() {
        Check.same("the greatest", Sets.built(Sets.of(32344), 1, 12).fingerprint(0), 4095);
        Check.same("the least", Sets.built(Sets.of(1773), 1, 12).fingerprint(0), 0);
        PerfectPew full = Sets.full();
        for (int number = 0; number < 120; number++) {
            Check.same("in range", full.fingerprint(number) >> 12, 0);
        }
    }

    private static void fingerprintUnbuilt() {
        for (int number : new int[] {0, 5, 6, 120, -1, Integer.MIN_VALUE, Integer.MAX_VALUE}) {
            Boundary.refusedUnbuilt("fingerprint(" + number + ")",
                    pew -> pew.fingerprint(number));
        }
    }

    private static void fingerprintRefusesNumbers() {
        Boundary.refusedOutside("fingerprint", 6, PerfectPew::fingerprint);
        Boundary.refused("fingerprint(1) of one", Boundary.INDEX,
                () -> Sets.built(Sets.of(5), 1, 1), pew -> pew.fingerprint(1));
        Boundary.refused("fingerprint(120) of 120", Boundary.INDEX, Sets::full,
                pew -> pew.fingerprint(120));
        Boundary.refused("fingerprint(5), once there are five", Boundary.INDEX,
                LookupBoundaries::oneLess, pew -> pew.fingerprint(5));
    }
}
