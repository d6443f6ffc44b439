import java.util.Arrays;

/** What the tests of opening share: files that the key 0 can open, and what an open of one must show. */
abstract class OpeningCase {
    static final int SECRET = 12345;
    static final int OTHER_SECRET = 777;
    static final int ADDRESS = Paper.address(SECRET);
    static final int STRANGER = Paper.address(999);
    static final int F = -123456789;
    static final byte[] OLD = {5, 6, 7};
    static final byte[] NOTHING = {};
    static final int HEAD_END = 12;

    static final Check check = new Check();

    /** An object with the key and an old message, so that it shows whether the message stays. */
    static SealedFiles withFile(byte[] file) {
        SealedFiles x = new SealedFiles();
        x.key(SECRET);
        x.key(OTHER_SECRET);
        Paper.put(x, OLD);
        Paper.load(x, file);
        return x;
    }

    static void opened(String what, byte[] file, int answer, int pieces, byte[] message) {
        SealedFiles x = withFile(file);
        check.due(what + ": open(0)", answer, () -> x.open(0));
        check.due(what + ": pieces()", pieces, x::pieces);
        check.compare(what + ": the message", Paper.text(message), Paper.messageOf(x));
    }

    static void refused(String what, byte[] file, int answer) {
        opened(what, file, answer, 0, OLD);
    }

    static Paper head(int f) {
        return Paper.start(1).entry(ADDRESS, 4321, f).headSign(f);
    }

    static byte[] good(int length) {
        return head(F).pieces(F, part(0, length)).made();
    }

    static byte[] part(int from, int to) {
        return Arrays.copyOfRange(Paper.message(110), from, to);
    }

    static byte[] altered(byte[] file, int i, int by) {
        byte[] other = file.clone();
        other[i] ^= (byte) by;
        return other;
    }
}
