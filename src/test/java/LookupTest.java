/** Promises 11 to 15: number, find, strangers, keyOf, fingerprint. */
public final class LookupTest {
    private static final int[] WRONG_KEYS = {-1, 100000, Integer.MIN_VALUE, Integer.MAX_VALUE};

    public static void main(String[] args) {
        number();
        numbersAreEachAnotherOne();
        find();
        strangers();
        strangersRefuses();
        keyOf();
        fingerprint();
        Check.end("LookupTest");
    }

    private static void number() {
        PerfectPew pew = Sets.line(100, 7, 6);
        Check.refusesState("number ahead of build", () -> pew.number(100));
        Check.refusesArgument("number(-1) ahead of build", () -> pew.number(-1));
        pew.build(2, 8);
        int[] keys = {107, 135, 114, 121, 128, 100};
        for (int number = 0; number < keys.length; number++) {
            Check.same("number(" + keys[number] + ")", pew.number(keys[number]), number);
        }
        // The stranger 101 with seed 1: hash 0 is 1015203 - 1000003 = 15200, so it is in bucket 2,
        // which is displaced by 3; hash 1 is 593185; hash 2 is 193681, so the step is 2.
        Check.same("number of a stranger", pew.number(101), (593185 + 3 * 2) % 6);
        Check.same("number(99999) of one key", oneKey().number(99999), 0);
        for (int key : WRONG_KEYS) {
            Check.refusesArgument("number(" + key + ")", () -> pew.number(key));
        }
    }

    private static PerfectPew oneKey() {
        PerfectPew pew = Sets.of(5);
        pew.build(1, 1);
        return pew;
    }

    private static void numbersAreEachAnotherOne() {
        PerfectPew pew = Sets.full();
        boolean[] seen = new boolean[120];
        for (int rank = 0; rank < 120; rank++) {
            seen[pew.number(pew.keyAt(rank))] = true;
        }
        for (int number = 0; number < 120; number++) {
            Check.same("a key has number " + number, seen[number], true);
        }
    }

    private static void find() {
        PerfectPew pew = Sets.line(100, 7, 6);
        Check.refusesState("find ahead of build", () -> pew.find(100));
        Check.refusesArgument("find(100000) ahead of build", () -> pew.find(100000));
        pew.build(2, 8);
        Check.same("find(114)", pew.find(114), 2);
        Check.same("find(100)", pew.find(100), 5);
        Check.same("find(115)", pew.find(115), PerfectPew.NONE);
        Check.same("find(43), a stranger with the fingerprint", pew.find(43), 5);
        Check.same("strangers found below 100", foundBelow(pew, 100), 2);
        for (int key : WRONG_KEYS) {
            Check.refusesArgument("find(" + key + ")", () -> pew.find(key));
        }
        PerfectPew one = oneKey();
        Check.same("find of the key with one bit", one.find(5), 0);
        Check.same("find(6) with one bit", one.find(6), PerfectPew.NONE);
        Check.same("find(8), a stranger with the fingerprint", one.find(8), 0);
    }

    private static int foundBelow(PerfectPew pew, int end) {
        int found = 0;
        for (int key = 0; key < end; key++) {
            found += pew.find(key) == PerfectPew.NONE ? 0 : 1;
        }
        return found;
    }

    private static void strangers() {
        PerfectPew pew = Sets.six();
        Check.same("strangers(0, 999)", pew.strangers(0, 999), 7);
        Check.same("of keys alone", pew.strangers(100, 100), 0);
        Check.same("of one that is found", oneKey().strangers(8, 8), 1);
        Check.same("of one that is not found", oneKey().strangers(6, 6), 0);
        Check.same("round the key", oneKey().strangers(5, 8), 1);
        Check.same("the widest span", pew.strangers(0, 4999), 29);
        Check.same("the first half of it", pew.strangers(0, 2499), 11);
        Check.same("the second half of it", pew.strangers(2500, 4999), 18);
        Check.same("up to a found one", pew.strangers(42, 43), 1);
        Check.same("from a found one", pew.strangers(43, 44), 1);
        Check.same("the highest one", pew.strangers(99999, 99999),
                pew.find(99999) == PerfectPew.NONE ? 0 : 1);
        PerfectPew two = Sets.line(99998, 1, 2);
        two.build(1, 4);
        Check.same("strangers(95001, 99999)", two.strangers(95001, 99999), 342);
    }

    private static void strangersRefuses() {
        PerfectPew pew = Sets.line(100, 7, 6);
        Check.refusesState("strangers ahead of build", () -> pew.strangers(0, 1));
        Check.refusesArgument("a wrong span ahead of build", () -> pew.strangers(1, 0));
        pew.build(2, 8);
        for (int key : WRONG_KEYS) {
            Check.refusesArgument("from " + key, () -> pew.strangers(key, 99999));
            Check.refusesArgument("to " + key, () -> pew.strangers(0, key));
            Check.refusesArgument("both " + key, () -> pew.strangers(key, key));
        }
        Check.refusesArgument("to below from", () -> pew.strangers(10, 9));
        Check.refusesArgument("5000 above from", () -> pew.strangers(0, 5000));
        Check.refusesArgument("to 100000", () -> pew.strangers(95001, 100000));
        Check.same("4999 above from", pew.strangers(95000, 99999) >= 0, true);
    }

    private static void keyOf() {
        PerfectPew pew = Sets.line(100, 7, 6);
        Check.refusesState("keyOf ahead of build", () -> pew.keyOf(0));
        Check.refusesState("keyOf(-1) ahead of build", () -> pew.keyOf(-1));
        pew.build(2, 8);
        Check.same("keys by number", Sets.numbered(pew), new int[] {107, 135, 114, 121, 128, 100});
        for (int number : new int[] {-1, 6, 120, Integer.MIN_VALUE, Integer.MAX_VALUE}) {
            Check.refusesIndex("keyOf(" + number + ")", () -> pew.keyOf(number));
        }
        PerfectPew full = Sets.full();
        Check.same("keyOf(0) of 120", full.keyOf(0), 76714);
        Check.same("keyOf(119)", full.keyOf(119), 80338);
        Check.refusesIndex("keyOf(120)", () -> full.keyOf(120));
    }

    private static void fingerprint() {
        PerfectPew pew = Sets.line(100, 7, 6);
        Check.refusesState("fingerprint ahead of build", () -> pew.fingerprint(0));
        Check.refusesState("fingerprint(6) ahead of build", () -> pew.fingerprint(6));
        pew.build(2, 8);
        Check.same("fingerprints", Sets.fingerprints(pew), new int[] {59, 36, 70, 14, 25, 48});
        for (int number : new int[] {-1, 6, 120, Integer.MIN_VALUE, Integer.MAX_VALUE}) {
            Check.refusesIndex("fingerprint(" + number + ")", () -> pew.fingerprint(number));
        }
        Check.same("with one bit", oneKey().fingerprint(0), 1);
        PerfectPew two = Sets.of(5, 6);
        two.build(6, 12);
        Check.same("with 12 bits", Sets.fingerprints(two), new int[] {131, 1780});
        Check.same("of the last of 120", Sets.full().fingerprint(119), 620);
    }
}
