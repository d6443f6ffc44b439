import java.util.Arrays;

/** 'Terms': the edges of POWERS, MIX, WORD, SIGN and of the parts of a FILE, as seal shows them. */
public final class TermsTest {
    private static final int[] SECRETS = {2, 32747, 12345, 16374};
    private static final int[] EDGES = {0, 1, -1, 2, -2, 255, 256, 32767, 32768, 65535, 65536, -65536, -65537,
        Integer.MAX_VALUE, Integer.MIN_VALUE, Integer.MAX_VALUE - 1, Integer.MIN_VALUE + 1};
    private static final int HEAD_SIGN_OF_ONE = 10;
    private static final int PIECES_OF_ONE = 12;

    private static final Check check = new Check();

    public static void main(String[] args) {
        check.each(
            TermsTest::powersOfTwo,
            TermsTest::powersOfAddresses,
            TermsTest::mixOfEdges,
            TermsTest::wordWhoseFirstSumWraps,
            TermsTest::wordWhoseSecondSumWraps,
            TermsTest::signFactor,
            TermsTest::signFactorOfOne,
            TermsTest::signNeverBelowZero,
            TermsTest::signThatWraps,
            TermsTest::signHigherByteFirst,
            TermsTest::signOfNoBytes,
            TermsTest::fileMarkAndReceivers,
            TermsTest::longestFile,
            TermsTest::entryPower,
            TermsTest::entryKeyBytes,
            TermsTest::entrySign,
            TermsTest::entryOfAgreedOne,
            TermsTest::headSign,
            TermsTest::pieceLengths,
            TermsTest::pieceOfEmptyMessage,
            TermsTest::coveredBytes,
            TermsTest::signOfPieceThatIsNotLast,
            TermsTest::signOfLastPiece);
        check.finish();
    }

    private static SealedFiles keyed(byte[] message) {
        SealedFiles x = new SealedFiles();
        for (int secret : SECRETS) {
            x.key(secret);
        }
        Paper.put(x, message);
        return x;
    }

    private static SealedFiles sealed(int who, int f, int seed, byte[] message) {
        SealedFiles x = keyed(message);
        x.seal(who, f, seed);
        return x;
    }

    private static void wholeFile(int who, int f, int seed, byte[] message) {
        String what = "the file of seal(" + who + ", " + f + ", " + seed + ") of " + message.length + " bytes";
        byte[] want = Paper.sealed(SECRETS, who, f, seed, message);
        check.compare(what, Paper.text(want), Paper.fileOf(sealed(who, f, seed, message)));
    }

    private static void bytesAt(String what, SealedFiles x, int start, int... want) {
        for (int i = 0; i < want.length; i++) {
            int at = start + i;
            check.due(what + ": at(" + at + ")", want[i], () -> x.at(at));
        }
    }

    private static void pairAt(String what, SealedFiles x, int start, int want) {
        bytesAt(what, x, start, want >>> 8, want & 255);
    }

    /** The file key with which the head is signed with r. */
    private static int headSignedWith(int r) {
        return Paper.firstOfWord(r, 0, 3);
    }

    private static byte[] headOfOne(int f, int seed) {
        byte[] file = Paper.sealed(SECRETS, 1, f, seed, new byte[0]);
        return Arrays.copyOf(file, HEAD_SIGN_OF_ONE);
    }

    private static void powersOfTwo() {
        check.sentence("Terms: POWERS are modulo 32749 (a prime)");
        int[] secrets = {14, 15, 16, 30, 31, 16373, 16374, 16375, 32746, 32747};
        int[] addresses = {16384, 19, 38, 361, 722, 16374, 32748, 32747, 24562, 16375};
        for (int i = 0; i < secrets.length; i++) {
            SealedFiles x = new SealedFiles();
            x.key(secrets[i]);
            check.due("2 to the power " + secrets[i], addresses[i], () -> x.address(0));
        }
    }

    /** What an address to the power e is shows in the four bytes that are wrapped with it. */
    private static void powersOfAddresses() {
        check.sentence("Terms: POWERS are modulo 32749 (of an address)");
        int f = 20261115;
        for (int e : new int[] {2, 3, 16373, 16374, 16375, 32746, 32747}) {
            for (int number = 0; number < SECRETS.length; number++) {
                SealedFiles x = sealed(1 << number, f, Paper.seedFor(e, f, number), new byte[0]);
                int address = Paper.address(SECRETS[number]);
                int w = f ^ Paper.word(Paper.power(address, e), address, 1);
                pairAt("w of key " + number + " with e " + e, x, 4, w >>> 16);
                pairAt("w of key " + number + " with e " + e, x, 6, w & 65535);
            }
        }
    }

    private static void mixOfEdges() {
        check.sentence("Terms: MIX of an int x (32 bits, wrapping, >>> as Java's)");
        for (int f : EDGES) {
            wholeFile(5, f, 7, Paper.message(9));
        }
    }

    private static void wordWhoseFirstSumWraps() {
        check.sentence("Terms: The WORD of a, b, c (MIX(a) + b wraps)");
        for (int mixed : EDGES) {
            for (int seed : EDGES) {
                wholeFile(2, Paper.unmixed(mixed), seed, new byte[0]);
            }
        }
    }

    private static void wordWhoseSecondSumWraps() {
        check.sentence("Terms: The WORD of a, b, c (MIX(MIX(a) + b) + c wraps)");
        int f = 4711;
        for (int mixed : EDGES) {
            int seed = Paper.unmixed(mixed) - Paper.mix(f);
            wholeFile(14, f, seed, new byte[0]);
        }
    }

    private static void signFactor() {
        check.sentence("Terms: let m = 1 + (r >>> 8) % 65520");
        int[] upper = {0, 1, 2, 65518, 65519, 65520, 65521, 131039, 131040, 131041, 8388607, 8388608, 16777215};
        for (int bits : upper) {
            for (int low : new int[] {0, 1, 254, 255}) {
                wholeFile(7, headSignedWith(bits << 8 | low), 3, Paper.message(3));
            }
        }
    }

    private static void signFactorOfOne() {
        check.sentence("Terms: let m = 1 + (r >>> 8) % 65520 (which is 1 again at 65520)");
        for (int r : new int[] {0, 255, 65520 << 8, 131040 << 8 | 7}) {
            int f = headSignedWith(r);
            int sum = r & 255;
            for (byte b : headOfOne(f, 5)) {
                sum += (b & 255) + 1;
            }
            pairAt("the head's sign with " + r, sealed(1, f, 5, new byte[0]), HEAD_SIGN_OF_ONE, sum);
        }
    }

    private static void signNeverBelowZero() {
        check.sentence("Terms: t = (t + byte + 1) * m modulo 65521 (never below 0)");
        for (int r : new int[] {65519 << 8, 65519 << 8 | 255, 65500 << 8, -1, -256, Integer.MIN_VALUE,
            16773119 << 8 | 17}) {
            for (int seed = 0; seed < 20; seed++) {
                wholeFile(14, headSignedWith(r), seed, Paper.message(40));
            }
        }
    }

    private static void signThatWraps() {
        check.sentence("Terms: the sign is (t + (r & 255)) modulo 65521");
        int r = 65519 << 8 | 255;
        int f = headSignedWith(r);
        for (int sign : new int[] {65519, 65520, 0, 1, 254, 255, 256}) {
            int seed = 0;
            while (Paper.sign(headOfOne(f, seed), r) != sign) {
                seed++;
            }
            SealedFiles x = sealed(1, f, seed, new byte[0]);
            pairAt("the head's sign " + sign, x, HEAD_SIGN_OF_ONE, sign);
            check.due("open(0) with the head's sign " + sign, 0, () -> x.open(0));
        }
    }

    private static void signHigherByteFirst() {
        check.sentence("Terms: two bytes, the higher one first");
        SealedFiles x = new SealedFiles();
        x.key(2);
        x.seal(1, headSignedWith(0), Paper.seedFor(2, headSignedWith(0), 0));
        int sum = 0;
        for (int i = 0; i < HEAD_SIGN_OF_ONE; i++) {
            sum += x.at(i) + 1;
        }
        bytesAt("the head's sign", x, HEAD_SIGN_OF_ONE, sum / 256, sum % 256);
    }

    private static void signOfNoBytes() {
        check.sentence("Terms: SIGN of a row of bytes (of none: t = 0)");
        for (int r : new int[] {0, 255, -1, 65519 << 8 | 254, Integer.MIN_VALUE, Integer.MAX_VALUE}) {
            SealedFiles x = sealed(1, Paper.firstOfWord(r, 0, 6), 5, new byte[0]);
            bytesAt("the sign of no bytes with " + r, x, PIECES_OF_ONE, 0, r & 255);
        }
    }

    private static void fileMarkAndReceivers() {
        check.sentence("Terms: 83, the number n (1 .. 3) of receivers");
        bytesAt("one receiver", sealed(8, 1, 1, new byte[0]), 0, 83, 1);
        bytesAt("two receivers", sealed(9, 1, 1, new byte[0]), 0, 83, 2);
        bytesAt("three receivers", sealed(13, 1, 1, new byte[0]), 0, 83, 3);
    }

    private static void longestFile() {
        check.sentence("Terms: A FILE has at most 120 bytes");
        SealedFiles x = new SealedFiles();
        Paper.write(x, "-".repeat(161));
        check.due("load() of the longest draft", 120, x::load);
        check.due("at(119)", 255, () -> x.at(119));
        check.due("at(120)", -1, () -> x.at(120));
        check.due("cut(120)", false, () -> x.cut(120));
        check.due("cut(119)", true, () -> x.cut(119));
    }

    private static void entryPower() {
        check.sentence("Terms: an e (2 .. 32747): 2 to the power e (two bytes, the higher first)");
        int f = -77;
        int[] exponents = {2, 7, 8, 14, 15, 16374, 32746, 32747};
        int[] powers = {4, 128, 256, 16384, 19, 32748, 24562, 16375};
        for (int i = 0; i < exponents.length; i++) {
            SealedFiles x = sealed(4, f, Paper.seedFor(exponents[i], f, 2), new byte[0]);
            pairAt("2 to the power " + exponents[i], x, 2, powers[i]);
        }
    }

    private static void entryKeyBytes() {
        check.sentence("Terms: w, four bytes, the highest first: f ^ WORD(z, A, 1)");
        int e = 4321;
        int address = Paper.address(SECRETS[2]);
        int word = Paper.word(Paper.power(address, e), address, 1);
        for (int w : new int[] {0, -1, 1, 256, 65536, 1 << 24, Integer.MIN_VALUE, 0x01020304, 0xfefdfcfb}) {
            int f = w ^ word;
            SealedFiles x = sealed(4, f, Paper.seedFor(e, f, 2), Paper.message(4));
            bytesAt("w " + w, x, 4, w >>> 24, w >>> 16 & 255, w >>> 8 & 255, w & 255);
            check.due("open(2) with w " + w, 4, () -> x.open(2));
        }
    }

    private static void entrySign() {
        check.sentence("Terms: the sign of these six bytes with WORD(z, A, 2)");
        for (int f = 0; f < 40; f++) {
            SealedFiles x = sealed(7, f, f, new byte[0]);
            for (int number = 0; number < 3; number++) {
                int address = Paper.address(SECRETS[number]);
                int z = Paper.power(address, Paper.exponent(f, f, number));
                byte[] six = new byte[6];
                for (int i = 0; i < 6; i++) {
                    six[i] = (byte) x.at(2 + 8 * number + i);
                }
                int want = Paper.sign(six, Paper.word(z, address, 2));
                pairAt("entry " + number + " of the file with the key " + f, x, 8 + 8 * number, want);
            }
        }
    }

    /** The address 32748 is -1 modulo the prime, so its powers are 1 and 32748 alone. */
    private static void entryOfAgreedOne() {
        check.sentence("Terms: z is A to the power e (1 and the greatest one, 32748)");
        int f = 31;
        int[] exponents = {2, 3};
        int[] agreed = {1, 32748};
        for (int i = 0; i < 2; i++) {
            SealedFiles x = sealed(8, f, Paper.seedFor(exponents[i], f, 3), new byte[0]);
            int w = f ^ Paper.word(agreed[i], 32748, 1);
            pairAt("w with z " + agreed[i], x, 4, w >>> 16);
            pairAt("w with z " + agreed[i], x, 6, w & 65535);
            check.due("open(3) with z " + agreed[i], 0, () -> x.open(3));
        }
    }

    private static void headSign() {
        check.sentence("Terms: The HEAD'S SIGN is the sign of all bytes before it with WORD(f, 0, 3)");
        int[] whos = {1, 3, 7};
        for (int n = 1; n <= 3; n++) {
            int end = 2 + 8 * n;
            for (int f = -3; f < 4; f++) {
                SealedFiles x = sealed(whos[n - 1], f, 1, Paper.message(8));
                byte[] before = new byte[end];
                for (int i = 0; i < end; i++) {
                    before[i] = (byte) x.at(i);
                }
                pairAt(n + " receivers, file key " + f, x, end, Paper.sign(before, Paper.word(f, 0, 3)));
            }
        }
    }

    private static void pieceLengths() {
        check.sentence("Terms: (8 in all but the last; the last 1 .. 8)");
        int[] lengths = {1, 2, 7, 8, 9, 15, 16, 17, 24, 25, 32, 33, 39, 40};
        int[] pieces = {1, 1, 1, 1, 2, 2, 2, 3, 3, 4, 4, 5, 5, 5};
        for (int i = 0; i < lengths.length; i++) {
            SealedFiles x = keyed(Paper.message(lengths[i]));
            int want = PIECES_OF_ONE + lengths[i] + 2 * pieces[i];
            check.due("seal of " + lengths[i] + " bytes", want, () -> x.seal(1, 1, 1));
            x.open(0);
            check.due("pieces() of " + lengths[i] + " bytes", pieces[i], x::pieces);
        }
    }

    private static void pieceOfEmptyMessage() {
        check.sentence("Terms: or none if the message is empty");
        SealedFiles x = keyed(new byte[0]);
        check.due("seal of no bytes", PIECES_OF_ONE + 2, () -> x.seal(1, 1, 1));
        pairAt("the sign of the only piece", x, PIECES_OF_ONE, Paper.word(1, 0, 6) & 255);
        check.due("open(0)", 0, () -> x.open(0));
        check.due("pieces()", 1, x::pieces);
    }

    private static void coveredBytes() {
        check.sentence("Terms: COVERED: byte j of it ^ the lowest 8 bits of WORD(f, 16 * k + j, 4)");
        for (int value : new int[] {0, 255, 128}) {
            byte[] message = new byte[40];
            Arrays.fill(message, (byte) value);
            SealedFiles x = sealed(1, -99, 1, message);
            for (int k = 0; k < 5; k++) {
                for (int j = 0; j < 8; j++) {
                    int want = value ^ Paper.word(-99, 16 * k + j, 4) & 255;
                    bytesAt("byte " + j + " of piece " + k, x, PIECES_OF_ONE + 10 * k + j, want);
                }
            }
        }
    }

    private static void pieceSign(SealedFiles x, int f, int k, int length, int use) {
        int start = PIECES_OF_ONE + 10 * k;
        byte[] covered = new byte[length];
        for (int j = 0; j < length; j++) {
            covered[j] = (byte) x.at(start + j);
        }
        pairAt("the sign of piece " + k, x, start + length, Paper.sign(covered, Paper.word(f, k, use)));
    }

    private static void signOfPieceThatIsNotLast() {
        check.sentence("Terms: behind them the sign of the covered bytes with WORD(f, k, 5)");
        for (int f : EDGES) {
            SealedFiles x = sealed(1, f, 1, Paper.message(40));
            for (int k = 0; k < 4; k++) {
                pieceSign(x, f, k, 8, 5);
            }
        }
    }

    private static void signOfLastPiece() {
        check.sentence("Terms: for the last piece with WORD(f, k, 6)");
        for (int length = 0; length <= 40; length++) {
            int k = Math.max(0, length - 1) / 8;
            pieceSign(sealed(1, 55, 1, Paper.message(length)), 55, k, length - 8 * k, 6);
        }
    }
}
