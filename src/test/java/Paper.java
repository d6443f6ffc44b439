import java.io.ByteArrayOutputStream;
import java.math.BigInteger;
import java.util.Arrays;
import java.util.Base64;

/**
 * The document's terms written a second time, on big numbers and the library's Base64,
 * so that the class is not judged by its own arithmetic. It also makes files that no
 * call of seal makes.
 */
final class Paper {
    private static final BigInteger TWO = BigInteger.TWO;
    private static final BigInteger PRIME = BigInteger.valueOf(32749);
    private static final BigInteger SIGN_PRIME = BigInteger.valueOf(65521);
    private static final BigInteger WRAP = TWO.pow(32);

    private final ByteArrayOutputStream bytes = new ByteArrayOutputStream();

    static int power(int base, int exponent) {
        return BigInteger.valueOf(base).modPow(BigInteger.valueOf(exponent), PRIME).intValue();
    }

    static int address(int secret) {
        return power(2, secret);
    }

    static int mix(int x) {
        BigInteger v = unsigned(x);
        v = v.xor(v.shiftRight(16)).multiply(BigInteger.valueOf(2146121005)).mod(WRAP);
        v = v.xor(v.shiftRight(15)).multiply(BigInteger.valueOf(2073254073)).mod(WRAP);
        return v.xor(v.shiftRight(16)).intValue();
    }

    static int word(int a, int b, int c) {
        return mix(mix(mix(a) + b) + c);
    }

    /** The int whose MIX is x: MIX can be undone, so a test can ask for any WORD that it needs. */
    static int unmixed(int x) {
        int y = x ^ x >>> 16;
        y *= inverse(2073254073);
        y ^= y >>> 15 ^ y >>> 30;
        y *= inverse(2146121005);
        return y ^ y >>> 16;
    }

    private static int inverse(int factor) {
        return BigInteger.valueOf(factor).modInverse(WRAP).intValue();
    }

    /** The a with which the WORD of a, b, c is the given one. */
    static int firstOfWord(int word, int b, int c) {
        return unmixed(unmixed(unmixed(word) - c) - b);
    }

    /** The b with which the WORD of a, b, c is the given one. */
    static int secondOfWord(int word, int a, int c) {
        return unmixed(unmixed(word) - c) - mix(a);
    }

    /** A seed with which seal takes this e for that key. */
    static int seedFor(int e, int f, int number) {
        return secondOfWord(e - 2 << 1, f, number);
    }

    static int sign(byte[] row, int r) {
        BigInteger m = unsigned(r).shiftRight(8).mod(BigInteger.valueOf(65520)).add(BigInteger.ONE);
        BigInteger t = BigInteger.ZERO;
        for (byte b : row) {
            t = t.add(BigInteger.valueOf((b & 255) + 1)).multiply(m).mod(SIGN_PRIME);
        }
        return t.add(unsigned(r).and(BigInteger.valueOf(255))).mod(SIGN_PRIME).intValue();
    }

    static int exponent(int f, int seed, int number) {
        return unsigned(word(f, seed, number)).shiftRight(1).mod(BigInteger.valueOf(32746)).intValue() + 2;
    }

    private static BigInteger unsigned(int x) {
        return BigInteger.valueOf(Integer.toUnsignedLong(x));
    }

    static String printed(byte[] row) {
        return Base64.getEncoder().withoutPadding().encodeToString(row).replace('/', '-');
    }

    static Paper start(int receivers) {
        return new Paper().raw(83, receivers);
    }

    Paper raw(int... values) {
        for (int value : values) {
            bytes.write(value);
        }
        return this;
    }

    Paper raw(byte[] values) {
        bytes.write(values, 0, values.length);
        return this;
    }

    Paper pair(int number) {
        return raw(number >>> 8, number & 255);
    }

    /** The entry as seal makes it. */
    Paper entry(int address, int e, int f) {
        return entryOf(power(2, e), power(address, e), address, f);
    }

    /** An entry with any number in its first two bytes; z is what the receiver makes of that. */
    Paper entryOf(int number, int z, int address, int f) {
        int w = f ^ word(z, address, 1);
        byte[] signed = new Paper().pair(number).pair(w >>> 16).pair(w & 65535).made();
        return raw(signed).pair(sign(signed, word(z, address, 2)));
    }

    Paper headSign(int f) {
        return pair(sign(made(), word(f, 0, 3)));
    }

    /** Piece k with any number of bytes; use is 5 for one that is not the last, 6 for the last. */
    Paper piece(int f, int k, int use, byte[] part) {
        byte[] covered = part.clone();
        for (int j = 0; j < covered.length; j++) {
            covered[j] ^= (byte) word(f, 16 * k + j, 4);
        }
        return raw(covered).pair(sign(covered, word(f, k, use)));
    }

    /** All pieces of a message, also of one that is longer than put allows. */
    Paper pieces(int f, byte[] message) {
        int k = 0;
        for (; (k + 1) * 8 < message.length; k++) {
            piece(f, k, 5, Arrays.copyOfRange(message, k * 8, k * 8 + 8));
        }
        return piece(f, k, 6, Arrays.copyOfRange(message, k * 8, message.length));
    }

    /** The whole file that seal makes for the keys of these secrets whose bits are set in who. */
    static byte[] sealed(int[] secrets, int who, int f, int seed, byte[] message) {
        Paper paper = start(Integer.bitCount(who));
        for (int number = 0; number < secrets.length; number++) {
            if ((who >> number & 1) == 1) {
                paper.entry(address(secrets[number]), exponent(f, seed, number), f);
            }
        }
        return paper.headSign(f).pieces(f, message).made();
    }

    byte[] made() {
        return bytes.toByteArray();
    }

    /** Bytes that differ from one another and use the whole range. */
    static byte[] message(int length) {
        byte[] row = new byte[length];
        for (int i = 0; i < length; i++) {
            row[i] = (byte) (255 - 37 * i);
        }
        return row;
    }

    static void put(SealedFiles x, byte[] row) {
        for (byte b : row) {
            x.put(b & 255);
        }
    }

    static void write(SealedFiles x, String text) {
        for (char c : text.toCharArray()) {
            x.write(c);
        }
    }

    static void load(SealedFiles x, byte[] row) {
        write(x, printed(row));
        x.load();
    }

    static String text(byte[] row) {
        return Arrays.toString(row);
    }

    static String fileOf(SealedFiles x) {
        byte[] row = new byte[x.count(1)];
        for (int i = 0; i < row.length; i++) {
            row[i] = (byte) x.at(i);
        }
        return text(row);
    }

    static String messageOf(SealedFiles x) {
        byte[] row = new byte[x.count(0)];
        for (int i = 0; i < row.length; i++) {
            row[i] = (byte) x.read(i);
        }
        return text(row);
    }
}
