/** Promises 2 (key) and 3 (address). */
public final class KeysTest {
    private static final Check check = new Check();

    public static void main(String[] args) {
        check.each(
            KeysTest::numbers,
            KeysTest::leastSecret,
            KeysTest::greatestSecret,
            KeysTest::secretTooSmall,
            KeysTest::secretTooLarge,
            KeysTest::wrongSecretMakesNoKey,
            KeysTest::anothersSecret,
            KeysTest::fourKeys,
            KeysTest::fifthKey,
            KeysTest::fifthKeyWithWrongSecret,
            KeysTest::fifthKeyChangesNothing,
            KeysTest::everyAddress,
            KeysTest::addressOfNoKey);
        check.finish();
    }

    private static SealedFiles keyed(int keys) {
        SealedFiles x = new SealedFiles();
        for (int number = 0; number < keys; number++) {
            x.key(number + 5);
        }
        return x;
    }

    private static void wrongSecret(int secret) {
        SealedFiles x = new SealedFiles();
        check.refused("key(" + secret + ")", IllegalArgumentException.class, () -> x.key(secret));
    }

    private static void numbers() {
        check.sentence("Promise 2: A new key: its number (0, 1, ..)");
        SealedFiles x = new SealedFiles();
        check.due("the first key", 0, () -> x.key(500));
        check.due("count(2) after it", 1, () -> x.count(2));
        check.due("the second key", 1, () -> x.key(30000));
        check.due("count(2) after it", 2, () -> x.count(2));
    }

    private static void leastSecret() {
        check.sentence("Promise 2: the secret 2 is right");
        SealedFiles x = new SealedFiles();
        check.due("key(2)", 0, () -> x.key(2));
        check.due("key(3)", 1, () -> x.key(3));
        check.due("address(0)", 4, () -> x.address(0));
        check.due("address(1)", 8, () -> x.address(1));
    }

    private static void greatestSecret() {
        check.sentence("Promise 2: the secret 32747 is right");
        SealedFiles x = new SealedFiles();
        check.due("key(32747)", 0, () -> x.key(32747));
        check.due("key(32746)", 1, () -> x.key(32746));
        check.due("address(0)", 16375, () -> x.address(0));
        check.due("address(1)", 24562, () -> x.address(1));
    }

    private static void secretTooSmall() {
        check.sentence("Promise 2: IllegalArgumentException when the secret is not 2 .. 32747 (below)");
        for (int secret : new int[] {1, 0, -1, -2, -32747, -65534, Integer.MIN_VALUE}) {
            wrongSecret(secret);
        }
    }

    private static void secretTooLarge() {
        check.sentence("Promise 2: IllegalArgumentException when the secret is not 2 .. 32747 (above)");
        for (int secret : new int[] {32748, 32749, 32750, 32751, 65535, 65536, 65538, Integer.MAX_VALUE}) {
            wrongSecret(secret);
        }
    }

    private static void wrongSecretMakesNoKey() {
        check.sentence("Promise 2: a call that throws makes no key");
        SealedFiles x = new SealedFiles();
        check.refused("key(1)", IllegalArgumentException.class, () -> x.key(1));
        check.refused("key(32748)", IllegalArgumentException.class, () -> x.key(32748));
        check.due("count(2)", 0, () -> x.count(2));
        check.due("address(0)", -1, () -> x.address(0));
        check.due("key(2)", 0, () -> x.key(2));
    }

    private static void anothersSecret() {
        check.sentence("Promise 2: (perhaps with another's secret)");
        SealedFiles x = new SealedFiles();
        for (int number = 0; number < 4; number++) {
            int want = number;
            check.due("key(77) as key " + want, want, () -> x.key(77));
            check.due("address(" + want + ")", Paper.address(77), () -> x.address(want));
        }
    }

    private static void fourKeys() {
        check.sentence("Promise 2: there may be 4 keys");
        SealedFiles x = keyed(3);
        check.due("the fourth key", 3, () -> x.key(9));
        check.due("count(2)", 4, () -> x.count(2));
        check.due("address(3)", 512, () -> x.address(3));
    }

    private static void fifthKey() {
        check.sentence("Promise 2: else IllegalStateException when there are 4");
        SealedFiles x = keyed(4);
        for (int secret : new int[] {2, 5, 32747, 1000}) {
            check.refused("key(" + secret + ") as the fifth", IllegalStateException.class, () -> x.key(secret));
        }
    }

    private static void fifthKeyWithWrongSecret() {
        check.sentence("Promise 2: IllegalArgumentException .. ; else IllegalStateException (both would be due)");
        SealedFiles x = keyed(4);
        for (int secret : new int[] {1, 0, -1, 32748, Integer.MAX_VALUE, Integer.MIN_VALUE}) {
            check.refused("key(" + secret + ") as the fifth", IllegalArgumentException.class, () -> x.key(secret));
        }
    }

    private static void fifthKeyChangesNothing() {
        check.sentence("Promise 2: a key that is refused as the fifth changes none of the four");
        SealedFiles x = keyed(4);
        check.refused("key(99)", IllegalStateException.class, () -> x.key(99));
        check.due("count(2)", 4, () -> x.count(2));
        check.due("address(4)", -1, () -> x.address(4));
        for (int number = 0; number < 4; number++) {
            int key = number;
            check.due("address(" + key + ")", 32 << key, () -> x.address(key));
        }
    }

    private static void everyAddress() {
        check.sentence("Promise 3: The address of a key");
        for (int secret = 2; secret <= 32747; secret++) {
            SealedFiles x = new SealedFiles();
            x.key(secret);
            check.due("the address of " + secret, Paper.address(secret), () -> x.address(0));
        }
    }

    private static void addressOfNoKey() {
        check.sentence("Promise 3: -1 when there is none");
        for (int keys = 0; keys <= 4; keys++) {
            SealedFiles x = keyed(keys);
            for (int key : new int[] {keys, keys + 1, 4, 5, 32, -1, -4, Integer.MAX_VALUE, Integer.MIN_VALUE}) {
                check.due("address(" + key + ") of " + keys + " keys", -1, () -> x.address(key));
            }
        }
    }
}
