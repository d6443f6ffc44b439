import java.util.NoSuchElementException;

/** Files sealed for one to three receivers and opened piece by piece. */
public final class SealedFiles {
    public static final int SHAPE = -1;
    public static final int FOR = -2;
    public static final int HEAD = -3;
    public static final int SPOILED = -4;
    public static final int CUT = -5;

    private static final int MOST_KEYS = 4;
    private static final int MOST_RECEIVERS = 3;
    private static final int MOST_MESSAGE_BYTES = 40;
    private static final int MOST_FILE_BYTES = 120;
    private static final int MOST_DRAFT_CHARACTERS = 160;

    private static final int LEAST_SECRET = 2;
    private static final int GREATEST_SECRET = 32747;
    private static final int BASE = 2;

    private static final int FILE_MARK = 83;
    private static final int ENTRIES_START = 2;
    private static final int ENTRY_BYTES = 8;
    private static final int ENTRY_SIGNED_BYTES = 6;
    private static final int SIGN_BYTES = 2;
    private static final int PIECE_BYTES = 8;
    private static final int COVER_STEP = 16;

    // The third argument of WORD keeps its uses apart.
    private static final int USE_WRAP = 1;
    private static final int USE_ENTRY_SIGN = 2;
    private static final int USE_HEAD_SIGN = 3;
    private static final int USE_COVER = 4;
    private static final int USE_PIECE_SIGN = 5;
    private static final int USE_LAST_PIECE_SIGN = 6;

    private static final String PRINTED =
        "ABCDEFGHIJKLMNOPQRSTUVWXYZabcdefghijklmnopqrstuvwxyz0123456789+-";

    private final Row secrets;
    private final Row addresses;
    private final Row message;
    private final Row file;
    private final Row draft;
    private int rightPieces;

    public SealedFiles() {
        secrets = new Row(MOST_KEYS);
        addresses = new Row(MOST_KEYS);
        message = new Row(MOST_MESSAGE_BYTES);
        file = new Row(MOST_FILE_BYTES);
        draft = new Row(MOST_DRAFT_CHARACTERS);
        rightPieces = 0;
    }

    public int key(int secret) throws IllegalArgumentException, IllegalStateException {
        if (secret < LEAST_SECRET || secret > GREATEST_SECRET) {
            throw new IllegalArgumentException("the secret is not 2 .. 32747");
        }
        if (!secrets.append(secret)) {
            throw new IllegalStateException("there are four keys");
        }
        addresses.append(Numbers.power(BASE, secret));
        return secrets.size() - 1;
    }

    public int address(int key) {
        return addresses.item(key);
    }

    public boolean put(int b) {
        return b >= 0 && b <= 255 && message.append(b);
    }

    public int clear() {
        int had = message.size();
        message.shorten(0);
        return had;
    }

    public int seal(int who, int f, int seed) throws IllegalArgumentException {
        if (!areReceivers(who)) {
            throw new IllegalArgumentException("not one to three keys that there are");
        }
        file.shorten(0);
        file.append(FILE_MARK);
        file.append(Integer.bitCount(who));
        for (int number = 0; number < secrets.size(); number++) {
            if ((who >>> number & 1) == 1) {
                appendEntry(addresses.item(number), f, exponent(f, seed, number));
            }
        }
        file.appendPair(headSign(f, file.size()));
        appendPieces(f);
        return file.size();
    }

    public int open(int key) throws IllegalArgumentException {
        if (!secrets.has(key)) {
            throw new IllegalArgumentException("there is no such key");
        }
        rightPieces = 0;
        if (!hasShape()) {
            return SHAPE;
        }
        int entry = entryFor(key);
        if (entry < 0) {
            return FOR;
        }
        int f = unwrapped(entry, key);
        int headEnd = entriesEnd();
        if (file.pair(headEnd) != headSign(f, headEnd)) {
            return HEAD;
        }
        return takePieces(f, headEnd + SIGN_BYTES);
    }

    public int pieces() {
        return rightPieces;
    }

    public int read(int i) throws NoSuchElementException {
        if (!message.has(i)) {
            throw new NoSuchElementException("the message has no such byte");
        }
        return message.item(i);
    }

    public int count(int what) {
        switch (what) {
            case 0:
                return message.size();
            case 1:
                return file.size();
            case 2:
                return secrets.size();
            default:
                return -1;
        }
    }

    public int at(int i) {
        return file.item(i);
    }

    public int alter(int i, int x) throws NoSuchElementException {
        if (!file.has(i)) {
            throw new NoSuchElementException("the file has no such byte");
        }
        file.replace(i, file.item(i) ^ x & 255);
        return file.item(i);
    }

    public boolean cut(int n) {
        return file.shorten(n);
    }

    public int print(int i) {
        int characters = (file.size() * 8 + 5) / 6;
        if (i < 0 || i >= characters) {
            return -1;
        }
        int start = i * 6 / 8;
        int skipped = i * 6 % 8;
        int second = file.has(start + 1) ? file.item(start + 1) : 0;
        int bits = file.item(start) << 8 | second;
        return PRINTED.charAt(bits >>> 10 - skipped & 63);
    }

    public boolean write(char c) {
        int six = PRINTED.indexOf(c);
        return six >= 0 && draft.append(six);
    }

    public int load() throws IllegalArgumentException {
        boolean printed = draftIsPrintedForm();
        if (printed) {
            takeDraft();
        }
        draft.shorten(0);
        if (!printed) {
            throw new IllegalArgumentException("the draft is no printed form");
        }
        return file.size();
    }

    private boolean areReceivers(int who) {
        int receivers = Integer.bitCount(who);
        return receivers >= 1 && receivers <= MOST_RECEIVERS && who >>> secrets.size() == 0;
    }

    private static int exponent(int f, int seed, int number) {
        return LEAST_SECRET + (Numbers.word(f, seed, number) >>> 1) % (GREATEST_SECRET - LEAST_SECRET + 1);
    }

    private void appendEntry(int address, int f, int e) {
        int start = file.size();
        int z = Numbers.power(address, e);
        int w = f ^ Numbers.word(z, address, USE_WRAP);
        file.appendPair(Numbers.power(BASE, e));
        file.appendPair(w >>> 16);
        file.appendPair(w & 65535);
        file.appendPair(entrySign(start, z, address));
    }

    private int entrySign(int start, int z, int address) {
        return file.sign(start, start + ENTRY_SIGNED_BYTES, Numbers.word(z, address, USE_ENTRY_SIGN));
    }

    private int headSign(int f, int headEnd) {
        return file.sign(0, headEnd, Numbers.word(f, 0, USE_HEAD_SIGN));
    }

    private int pieceSign(int f, int k, int start, int end, boolean last) {
        int use = last ? USE_LAST_PIECE_SIGN : USE_PIECE_SIGN;
        return file.sign(start, end, Numbers.word(f, k, use));
    }

    private static int covered(int b, int f, int k, int j) {
        return b ^ Numbers.word(f, COVER_STEP * k + j, USE_COVER) & 255;
    }

    private void appendPieces(int f) {
        // An empty message still has its last piece, so that a cut shows.
        int lastPiece = Math.max(message.size() - 1, 0) / PIECE_BYTES;
        for (int k = 0; k <= lastPiece; k++) {
            int from = k * PIECE_BYTES;
            int length = Math.min(message.size() - from, PIECE_BYTES);
            int start = file.size();
            for (int j = 0; j < length; j++) {
                file.append(covered(message.item(from + j), f, k, j));
            }
            file.appendPair(pieceSign(f, k, start, file.size(), k == lastPiece));
        }
    }

    private int entriesEnd() {
        return ENTRIES_START + file.item(1) * ENTRY_BYTES;
    }

    private boolean hasShape() {
        return file.item(0) == FILE_MARK
            && file.item(1) >= 1
            && file.item(1) <= MOST_RECEIVERS
            && file.size() >= entriesEnd() + 2 * SIGN_BYTES;
    }

    /** Where the first entry for the key starts; -1 when there is none. */
    private int entryFor(int key) {
        int receivers = file.item(1);
        for (int i = 0; i < receivers; i++) {
            int start = ENTRIES_START + i * ENTRY_BYTES;
            int right = entrySign(start, agreed(start, key), addresses.item(key));
            if (file.pair(start + ENTRY_SIGNED_BYTES) == right) {
                return start;
            }
        }
        return -1;
    }

    /** The secret z that the entry's maker and the key's holder agree on. */
    private int agreed(int entry, int key) {
        return Numbers.power(file.pair(entry), secrets.item(key));
    }

    private int unwrapped(int entry, int key) {
        int w = file.pair(entry + 2) << 16 | file.pair(entry + 4);
        return w ^ Numbers.word(agreed(entry, key), addresses.item(key), USE_WRAP);
    }

    private int takePieces(int f, int piecesStart) {
        message.shorten(0);
        int whole = PIECE_BYTES + SIGN_BYTES;
        int lastPiece = (file.size() - piecesStart - 1) / whole;
        for (int k = 0; k <= lastPiece; k++) {
            boolean last = k == lastPiece;
            int start = piecesStart + k * whole;
            int end = last ? file.size() - SIGN_BYTES : start + PIECE_BYTES;
            // One byte that is left is too short for a sign.
            if (end < start) {
                return SPOILED;
            }
            int found = file.pair(end);
            if (found != pieceSign(f, k, start, end, last)) {
                return found == pieceSign(f, k, start, end, !last) ? CUT : SPOILED;
            }
            uncover(f, k, start, end);
            rightPieces++;
        }
        return message.size();
    }

    /** What goes beyond the message's limit is left out: only the first bytes are promised. */
    private void uncover(int f, int k, int start, int end) {
        for (int i = start; i < end; i++) {
            message.append(covered(file.item(i), f, k, i - start));
        }
    }

    private int draftBytes() {
        return draft.size() * 6 / 8;
    }

    private boolean draftIsPrintedForm() {
        int spareBits = draft.size() * 6 - draftBytes() * 8;
        if (spareBits == 0) {
            return true;
        }
        int spareMask = (1 << spareBits) - 1;
        return spareBits < 6 && (draft.item(draft.size() - 1) & spareMask) == 0;
    }

    private void takeDraft() {
        file.shorten(0);
        int bytes = draftBytes();
        for (int i = 0; i < bytes; i++) {
            int start = i * 8 / 6;
            int skipped = i * 8 % 6;
            int bits = draft.item(start) << 6 | draft.item(start + 1);
            file.append(bits >>> 4 - skipped & 255);
        }
    }

    /** The document's functions over numbers alone. */
    private static final class Numbers {
        private static final int PRIME = 32749;
        private static final int EXPONENT_BITS = 15;

        private static int power(int base, int exponent) {
            // An entry's two bytes may hold more than the prime, and a square of that would wrap.
            int square = base % PRIME;
            int result = 1;
            for (int bit = 0; bit < EXPONENT_BITS; bit++) {
                if ((exponent >>> bit & 1) == 1) {
                    result = result * square % PRIME;
                }
                square = square * square % PRIME;
            }
            return result;
        }

        private static int mix(int x) {
            int y = (x ^ x >>> 16) * 2146121005;
            int z = (y ^ y >>> 15) * 2073254073;
            return z ^ z >>> 16;
        }

        private static int word(int a, int b, int c) {
            return mix(mix(mix(a) + b) + c);
        }
    }

    /** A row of numbers with a limit, made once and used again. */
    private static final class Row {
        private static final int SIGN_PRIME = 65521;

        private final int[] items;
        private int size;

        private Row(int limit) {
            items = new int[limit];
            size = 0;
        }

        private int size() {
            return size;
        }

        private boolean has(int i) {
            return i >= 0 && i < size;
        }

        /** -1 when there is none. */
        private int item(int i) {
            return has(i) ? items[i] : -1;
        }

        private boolean append(int item) {
            if (size >= items.length) {
                return false;
            }
            items[size] = item;
            size++;
            return true;
        }

        private void replace(int i, int item) {
            if (has(i)) {
                items[i] = item;
            }
        }

        private boolean shorten(int length) {
            if (length < 0 || length >= size) {
                return false;
            }
            size = length;
            return true;
        }

        private void appendPair(int number) {
            append(number >>> 8);
            append(number & 255);
        }

        private int pair(int i) {
            return item(i) << 8 | item(i + 1);
        }

        private int sign(int start, int end, int r) {
            // Long, since a product of two remainders does not fit an int.
            long factor = 1 + (r >>> 8) % (SIGN_PRIME - 1);
            long t = 0;
            for (int i = start; i < end; i++) {
                t = (t + item(i) + 1) * factor % SIGN_PRIME;
            }
            return (int) ((t + (r & 255)) % SIGN_PRIME);
        }
    }
}
