import java.util.Arrays;

/** Promise 6 (seal): every byte of the file against the document's terms. */
public final class SealTest {
    private static final int[] SECRETS = {2, 32747, 12345, 2};
    private static final int[] INTS = {0, 1, -1, 77, 123456789, Integer.MAX_VALUE, Integer.MIN_VALUE};

    public static void main(String[] args) {
        Check check = new Check();
        everyLength(check);
        everyWho(check);
        fewKeys(check);
        manyFileKeys(check);
        wrongWho(check);
        check.finish();
    }

    private static SealedFiles keyed(int keys) {
        SealedFiles x = new SealedFiles();
        for (int i = 0; i < keys; i++) {
            x.key(SECRETS[i]);
        }
        return x;
    }

    private static byte[] sealed(int who, int f, int seed, byte[] message) {
        Paper paper = Paper.start(Integer.bitCount(who));
        for (int number = 0; number < SECRETS.length; number++) {
            if ((who >> number & 1) == 1) {
                paper.entry(Paper.address(SECRETS[number]), Paper.exponent(f, seed, number), f);
            }
        }
        return paper.headSign(f).pieces(f, message).made();
    }

    private static void compare(Check check, SealedFiles x, int who, int f, int seed, byte[] message) {
        String call = "seal(" + who + ", " + f + ", " + seed + ") of " + message.length + " bytes";
        byte[] want = sealed(who, f, seed, message);
        check.due(call, want.length, () -> x.seal(who, f, seed));
        check.compare("the file of " + call, Arrays.toString(want), Paper.fileOf(x));
        check.compare("the message after " + call, Arrays.toString(message), Paper.messageOf(x));
    }

    private static void everyLength(Check check) {
        for (int length = 0; length <= 40; length++) {
            SealedFiles x = keyed(4);
            Paper.put(x, Paper.message(length));
            compare(check, x, 1, 99, 7, Paper.message(length));
            compare(check, x, 14, -5, 7, Paper.message(length));
        }
    }

    private static void everyWho(Check check) {
        for (int who = 1; who < 15; who++) {
            SealedFiles x = keyed(4);
            Paper.put(x, Paper.message(11));
            compare(check, x, who, 4711, -9, Paper.message(11));
        }
    }

    private static void fewKeys(Check check) {
        SealedFiles x = keyed(1);
        compare(check, x, 1, 3, 4, Paper.message(0));
        check.refused("seal(2, 3, 4) with one key", IllegalArgumentException.class, () -> x.seal(2, 3, 4));
        check.refused("seal(3, 3, 4) with one key", IllegalArgumentException.class, () -> x.seal(3, 3, 4));
        x.key(SECRETS[1]);
        compare(check, x, 3, 3, 4, Paper.message(0));
    }

    private static void manyFileKeys(Check check) {
        for (int f : INTS) {
            for (int seed : INTS) {
                SealedFiles x = keyed(3);
                Paper.put(x, Paper.message(40));
                compare(check, x, 7, f, seed, Paper.message(40));
            }
        }
        for (int i = 0; i < 500; i++) {
            SealedFiles x = keyed(2);
            Paper.put(x, Paper.message(17));
            compare(check, x, 2, i * 2654435, i * -40503, Paper.message(17));
        }
    }

    private static void wrongWho(Check check) {
        int[] wrong = {0, 15, 16, 17, 31, 32, 1 << 30, 1 << 31, 1 << 31 | 1, -1, -16, 0x10001, 19};
        for (int keys = 0; keys <= 4; keys++) {
            SealedFiles x = keyed(keys);
            Paper.put(x, Paper.message(5));
            Paper.load(x, new byte[] {1, 2, 3});
            for (int who : wrong) {
                check.refused("seal(" + who + ", 1, 1)", IllegalArgumentException.class, () -> x.seal(who, 1, 1));
            }
            check.compare("the file after wrong seals", "[1, 2, 3]", Paper.fileOf(x));
            check.compare("the message after wrong seals", Arrays.toString(Paper.message(5)), Paper.messageOf(x));
        }
    }
}
