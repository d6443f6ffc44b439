/** Promise 6 (seal): every byte of the file against the document's terms. */
public final class SealTest {
    private static final int[] SECRETS = {2, 32747, 12345, 2};
    private static final int[] INTS = {0, 1, -1, 77, 123456789, Integer.MAX_VALUE, Integer.MIN_VALUE};
    private static final String OLD_FILE = "[1, 2, 3]";

    private static final Check check = new Check();

    public static void main(String[] args) {
        check.each(
            SealTest::everyLength,
            SealTest::messageStays,
            SealTest::inTheSteadOfALongerFile,
            SealTest::inTheSteadOfAShorterFile,
            SealTest::anyFileKey,
            SealTest::everyWho,
            SealTest::orderOfTheKeys,
            SealTest::exponentEdges,
            SealTest::exponentOfNegativeWord,
            SealTest::leastFile,
            SealTest::longestSealedFile,
            SealTest::sealsWhatWasOpened,
            SealTest::noBit,
            SealTest::moreThanThreeBits,
            SealTest::oneBitOfNoKey,
            SealTest::aBitOfNoKeyBesideAKey,
            SealTest::theNextKeyMakesItRight,
            SealTest::fileStays,
            SealTest::otherThingsStay);
        check.finish();
    }

    private static SealedFiles keyed(int keys) {
        SealedFiles x = new SealedFiles();
        for (int i = 0; i < keys; i++) {
            x.key(SECRETS[i]);
        }
        return x;
    }

    private static SealedFiles withMessage(int keys, int length) {
        SealedFiles x = keyed(keys);
        Paper.put(x, Paper.message(length));
        return x;
    }

    private static void compare(SealedFiles x, int who, int f, int seed, byte[] message) {
        String call = "seal(" + who + ", " + f + ", " + seed + ") of " + message.length + " bytes";
        byte[] want = Paper.sealed(SECRETS, who, f, seed, message);
        check.due(call, want.length, () -> x.seal(who, f, seed));
        check.compare("the file of " + call, Paper.text(want), Paper.fileOf(x));
    }

    private static void refused(SealedFiles x, int who) {
        check.refused("seal(" + who + ", 1, 1)", IllegalArgumentException.class, () -> x.seal(who, 1, 1));
    }

    private static void everyLength() {
        check.sentence("Promise 6: The message is sealed into the file: how many bytes the file has");
        for (int length = 0; length <= 40; length++) {
            SealedFiles x = withMessage(4, length);
            compare(x, 1, 99, 7, Paper.message(length));
            compare(x, 14, -5, 7, Paper.message(length));
        }
    }

    private static void messageStays() {
        check.sentence("Promise 6: (which stays)");
        for (int length : new int[] {0, 1, 8, 9, 40}) {
            SealedFiles x = withMessage(3, length);
            x.seal(7, 3, 3);
            check.compare("the message of " + length, Paper.text(Paper.message(length)), Paper.messageOf(x));
        }
    }

    private static void inTheSteadOfALongerFile() {
        check.sentence("Promise 6: (in the stead of the old one), which was longer");
        SealedFiles x = withMessage(3, 1);
        Paper.load(x, Paper.message(120));
        compare(x, 1, 8, 9, Paper.message(1));
        check.due("at(15)", -1, () -> x.at(15));
        check.due("print(20)", -1, () -> x.print(20));
        check.due("open(0)", 1, () -> x.open(0));
    }

    private static void inTheSteadOfAShorterFile() {
        check.sentence("Promise 6: (in the stead of the old one), which was shorter");
        SealedFiles x = withMessage(3, 40);
        Paper.load(x, Paper.message(3));
        compare(x, 7, 8, 9, Paper.message(40));
    }

    private static void anyFileKey() {
        check.sentence("Promise 6: with the key f (any int)");
        for (int f : INTS) {
            for (int seed : INTS) {
                SealedFiles x = withMessage(3, 40);
                compare(x, 7, f, seed, Paper.message(40));
            }
        }
        for (int i = 0; i < 500; i++) {
            compare(withMessage(2, 17), 2, i * 2654435, i * -40503, Paper.message(17));
        }
    }

    private static void everyWho() {
        check.sentence("Promise 6: for the keys whose bits are set in who");
        for (int who = 1; who < 15; who++) {
            SealedFiles x = withMessage(4, 11);
            compare(x, who, 4711, -9, Paper.message(11));
            for (int number = 0; number < 4; number++) {
                boolean meant = (who >> number & 1) == 1;
                // Keys 0 and 3 have one secret: each of them opens what is for the other.
                boolean sameAddress = number % 3 == 0 && (who & 9) != 0;
                int key = number;
                int due = meant || sameAddress ? 11 : SealedFiles.FOR;
                check.due("open(" + key + ") behind seal(" + who + ", ..)", due, () -> x.open(key));
            }
        }
    }

    private static void orderOfTheKeys() {
        check.sentence("Promise 6: in their order");
        SealedFiles x = keyed(4);
        for (int number = 1; number < 4; number++) {
            int e = Paper.exponent(6, 6, number);
            int place = 2 + 8 * (number - 1);
            x.seal(14, 6, 6);
            check.due("at(" + place + ")", Paper.power(2, e) >>> 8, () -> x.at(place));
            check.due("at(" + (place + 1) + ")", Paper.power(2, e) & 255, () -> x.at(place + 1));
        }
    }

    private static void exponent(int word, int e) {
        int f = 1234567;
        for (int number = 0; number < 4; number++) {
            SealedFiles x = keyed(4);
            x.seal(1 << number, f, Paper.secondOfWord(word, f, number));
            int power = Paper.power(2, e);
            check.due("at(2) with e " + e + ", key " + number, power >>> 8, () -> x.at(2));
            check.due("at(3) with e " + e + ", key " + number, power & 255, () -> x.at(3));
        }
    }

    private static void exponentEdges() {
        check.sentence("Promise 6: e being 2 + (WORD(f, seed, the key's number) >>> 1) % 32746");
        exponent(0, 2);
        exponent(1, 2);
        exponent(2, 3);
        exponent(65489, 32746);
        exponent(65490, 32747);
        exponent(65491, 32747);
        exponent(65492, 2);
        exponent(65494, 3);
    }

    private static void exponentOfNegativeWord() {
        check.sentence("Promise 6: (WORD(f, seed, the key's number) >>> 1), of a word below 0");
        exponent(-1, 2 + 2147483647 % 32746);
        exponent(Integer.MIN_VALUE, 2 + 1073741824 % 32746);
        exponent(Integer.MAX_VALUE, 2 + 1073741823 % 32746);
        exponent(-65492, 2 + 2147450902 % 32746);
    }

    private static void leastFile() {
        check.sentence("Promise 6: how many bytes the file has (the least)");
        SealedFiles x = keyed(4);
        check.due("seal for one", 14, () -> x.seal(8, 1, 1));
        check.due("seal for two", 22, () -> x.seal(9, 1, 1));
        check.due("seal for three", 30, () -> x.seal(11, 1, 1));
        check.due("count(1)", 30, () -> x.count(1));
    }

    private static void longestSealedFile() {
        check.sentence("Promise 6: how many bytes the file has (the most)");
        SealedFiles x = withMessage(3, 40);
        check.due("seal of 40 bytes for one", 62, () -> x.seal(1, 1, 1));
        check.due("seal of 40 bytes for three", 78, () -> x.seal(7, 1, 1));
        check.due("count(1)", 78, () -> x.count(1));
        check.due("at(77)", Paper.sealed(SECRETS, 7, 1, 1, Paper.message(40))[77] & 255, () -> x.at(77));
        check.due("at(78)", -1, () -> x.at(78));
    }

    private static void sealsWhatWasOpened() {
        check.sentence("Promise 6: The message is sealed (one that was opened)");
        SealedFiles x = withMessage(2, 21);
        x.seal(1, 5, 5);
        x.clear();
        x.open(0);
        compare(x, 2, 6, 6, Paper.message(21));
        x.cut(22);
        x.open(1);
        compare(x, 1, 7, 7, Paper.message(0));
    }

    private static void noBit() {
        check.sentence("Promise 6: IllegalArgumentException when who has no bit");
        for (int keys = 0; keys <= 4; keys++) {
            refused(keyed(keys), 0);
        }
    }

    private static void moreThanThreeBits() {
        check.sentence("Promise 6: IllegalArgumentException when who has more than three");
        refused(keyed(4), 15);
        SealedFiles x = keyed(4);
        check.due("seal(7, 1, 1)", 30, () -> x.seal(7, 1, 1));
        check.due("seal(14, 1, 1)", 30, () -> x.seal(14, 1, 1));
    }

    private static void oneBitOfNoKey() {
        check.sentence("Promise 6: IllegalArgumentException when who has one (of 0 .. 31) of no key");
        for (int keys = 0; keys <= 4; keys++) {
            SealedFiles x = keyed(keys);
            for (int bit = keys; bit < 32; bit++) {
                refused(x, 1 << bit);
            }
        }
    }

    private static void aBitOfNoKeyBesideAKey() {
        check.sentence("Promise 6: IllegalArgumentException when who has one of no key (beside one of a key)");
        for (int keys = 1; keys <= 4; keys++) {
            SealedFiles x = keyed(keys);
            for (int bit = keys; bit < 32; bit++) {
                refused(x, 1 << bit | 1);
                refused(x, 1 << bit | 1 << keys - 1);
            }
            refused(x, -1);
            refused(x, -2);
        }
    }

    private static void theNextKeyMakesItRight() {
        check.sentence("Promise 6: a bit of no key is right as soon as there is the key");
        for (int keys = 0; keys < 4; keys++) {
            SealedFiles x = keyed(keys);
            int who = 1 << keys;
            refused(x, who);
            x.key(SECRETS[keys]);
            compare(x, who, 3, 4, new byte[0]);
        }
    }

    private static SealedFiles afterRefusedSeals() {
        SealedFiles x = withMessage(4, 17);
        x.seal(1, 2, 3);
        x.open(0);
        Paper.load(x, new byte[] {1, 2, 3});
        refused(x, 0);
        refused(x, 15);
        refused(x, 16);
        refused(x, Integer.MIN_VALUE | 1);
        return x;
    }

    private static void fileStays() {
        check.sentence("Promise 6: IllegalArgumentException (the file stays)");
        check.compare("the file", OLD_FILE, Paper.fileOf(afterRefusedSeals()));
    }

    private static void otherThingsStay() {
        check.sentence("Promise 6: a seal that throws leaves the message, the keys and pieces() too");
        SealedFiles x = afterRefusedSeals();
        check.compare("the message", Paper.text(Paper.message(17)), Paper.messageOf(x));
        check.due("count(2)", 4, () -> x.count(2));
        check.due("pieces()", 3, x::pieces);
    }
}
