import java.util.ArrayList;
import java.util.Arrays;
import java.util.Collections;
import java.util.List;
import java.util.NoSuchElementException;
import java.util.Random;
import java.util.function.ToLongFunction;

/** Long mixed runs of all calls beside a plain second telling of the promises. */
public final class RandomRunsTest {
    private static final String CHARACTERS =
        "ABCDEFGHIJKLMNOPQRSTUVWXYZabcdefghijklmnopqrstuvwxyz0123456789+-";
    private static final int RUNS = 1500;
    private static final int CALLS = 300;

    public static void main(String[] args) {
        Check check = new Check();
        check.sentence("Promises 1 to 16, in long mixed runs");
        for (int run = 0; run < RUNS; run++) {
            new Run(check, run).go();
        }
        check.finish();
    }

    /** The promises, told on lists. */
    private static final class Told {
        private final List<Integer> secrets = new ArrayList<>();
        private final List<Integer> message = new ArrayList<>();
        private byte[] file = new byte[0];
        private String draft = "";
        private int pieces = 0;

        long key(int secret) {
            if (secret < 2 || secret > 32747) {
                throw new IllegalArgumentException();
            }
            if (secrets.size() == 4) {
                throw new IllegalStateException();
            }
            secrets.add(secret);
            return secrets.size() - 1;
        }

        long address(int key) {
            return key >= 0 && key < secrets.size() ? Paper.address(secrets.get(key)) : -1;
        }

        long put(int b) {
            return b < 0 || b > 255 || message.size() == 40 || !message.add(b) ? 0 : 1;
        }

        long clear() {
            int had = message.size();
            message.clear();
            return had;
        }

        long seal(int who, int f, int seed) {
            List<Integer> receivers = new ArrayList<>();
            for (int bit = 0; bit < 32; bit++) {
                if ((who & 1 << bit) != 0) {
                    receivers.add(bit);
                }
            }
            if (receivers.isEmpty() || receivers.size() > 3 || Collections.max(receivers) >= secrets.size()) {
                throw new IllegalArgumentException();
            }
            Paper paper = Paper.start(receivers.size());
            for (int number : receivers) {
                paper.entry(Paper.address(secrets.get(number)), Paper.exponent(f, seed, number), f);
            }
            byte[] row = new byte[message.size()];
            for (int i = 0; i < row.length; i++) {
                row[i] = message.get(i).byteValue();
            }
            file = paper.headSign(f).pieces(f, row).made();
            return file.length;
        }

        long open(int key) {
            if (key < 0 || key >= secrets.size()) {
                throw new IllegalArgumentException();
            }
            pieces = 0;
            if (file.length < 2 || file[0] != 83 || file[1] < 1 || file[1] > 3 || file.length < 6 + 8 * file[1]) {
                return SealedFiles.SHAPE;
            }
            int address = Paper.address(secrets.get(key));
            for (int entry = 2; entry < 2 + 8 * file[1]; entry += 8) {
                int z = Paper.power(pair(entry), secrets.get(key));
                if (pair(entry + 6) == Paper.sign(part(entry, entry + 6), Paper.word(z, address, 2))) {
                    return openHead((pair(entry + 2) << 16 | pair(entry + 4)) ^ Paper.word(z, address, 1));
                }
            }
            return SealedFiles.FOR;
        }

        private long openHead(int f) {
            int end = 2 + 8 * file[1];
            if (pair(end) != Paper.sign(part(0, end), Paper.word(f, 0, 3))) {
                return SealedFiles.HEAD;
            }
            message.clear();
            int from = end + 2;
            while (file.length - from > 10) {
                long found = openPiece(f, from, from + 8, 5, 6);
                if (found < 0) {
                    return found;
                }
                from += 10;
            }
            if (file.length - from == 1) {
                return SealedFiles.SPOILED;
            }
            long found = openPiece(f, from, file.length - 2, 6, 5);
            return found < 0 ? found : message.size();
        }

        private long openPiece(int f, int from, int to, int kind, int otherKind) {
            byte[] covered = part(from, to);
            if (pair(to) == Paper.sign(covered, Paper.word(f, pieces, kind))) {
                for (int j = 0; j < covered.length; j++) {
                    put((covered[j] ^ Paper.word(f, 16 * pieces + j, 4)) & 255);
                }
                pieces++;
                return 0;
            }
            boolean other = pair(to) == Paper.sign(covered, Paper.word(f, pieces, otherKind));
            return other ? SealedFiles.CUT : SealedFiles.SPOILED;
        }

        private byte[] part(int from, int to) {
            return Arrays.copyOfRange(file, from, to);
        }

        private int pair(int i) {
            return (file[i] & 255) * 256 + (file[i + 1] & 255);
        }

        long read(int i) {
            if (i < 0 || i >= message.size()) {
                throw new NoSuchElementException();
            }
            return message.get(i);
        }

        long count(int what) {
            return what == 0 ? message.size() : what == 1 ? file.length : what == 2 ? secrets.size() : -1;
        }

        long at(int i) {
            return i < 0 || i >= file.length ? -1 : file[i] & 255;
        }

        long alter(int i, int x) {
            if (at(i) < 0) {
                throw new NoSuchElementException();
            }
            file[i] ^= (byte) x;
            return at(i);
        }

        long cut(int n) {
            if (n < 0 || file.length <= n) {
                return 0;
            }
            file = part(0, n);
            return 1;
        }

        long print(int i) {
            String printed = Paper.printed(file);
            return i < 0 || i >= printed.length() ? -1 : printed.charAt(i);
        }

        long write(char c) {
            if (draft.length() == 160 || CHARACTERS.indexOf(c) < 0) {
                return 0;
            }
            draft += c;
            return 1;
        }

        /** The draft is right when the bytes that it tells are printed as the draft again. */
        long load() {
            StringBuilder bits = new StringBuilder();
            for (char c : draft.toCharArray()) {
                bits.append(Integer.toBinaryString(64 + CHARACTERS.indexOf(c)).substring(1));
            }
            byte[] row = new byte[bits.length() / 8];
            for (int i = 0; i < row.length; i++) {
                row[i] = (byte) Integer.parseInt(bits.substring(8 * i, 8 * i + 8), 2);
            }
            boolean right = Paper.printed(row).equals(draft);
            draft = "";
            if (!right) {
                throw new IllegalArgumentException();
            }
            file = row;
            return file.length;
        }
    }

    /** One object and its told twin, driven by the same calls. */
    private static final class Run {
        private static final int[] EDGES = {-1, 0, 1, 2, 3, 4, 39, 40, 41, 119, 120, 160, 255, 256, 32747, 32748,
            Integer.MAX_VALUE, Integer.MIN_VALUE};

        private final Check check;
        private final String name;
        private final Random random;
        private final SealedFiles x = new SealedFiles();
        private final Told told = new Told();

        Run(Check check, int number) {
            this.check = check;
            this.name = "run " + number + ": ";
            this.random = new Random(number);
        }

        void go() {
            for (int left = CALLS; left > 0;) {
                left -= step();
            }
        }

        private int some(int below) {
            return random.nextInt(8) == 0 ? EDGES[random.nextInt(EDGES.length)] : random.nextInt(below);
        }

        private int both(String call, ToLongFunction<SealedFiles> real, ToLongFunction<Told> due) {
            check.compare(name + call, Check.outcome(() -> due.applyAsLong(told)),
                Check.outcome(() -> real.applyAsLong(x)));
            return 1;
        }

        private int step() {
            int a = some(128);
            int b = some(256);
            int key = some(3);
            switch (random.nextInt(17)) {
                case 0: return both("address(" + key + ")", s -> s.address(key), t -> t.address(key));
                case 1: return newKey();
                case 2: return random.nextInt(4) == 0 ? both("clear()", SealedFiles::clear, Told::clear) : open();
                case 3: return sealSome();
                case 4:
                case 5: return open();
                case 6: return both("pieces()", SealedFiles::pieces, t -> t.pieces);
                case 7: return both("read(" + a / 3 + ")", s -> s.read(a / 3), t -> t.read(a / 3));
                case 8: return both("count(" + key + ")", s -> s.count(key), t -> t.count(key));
                case 9: return both("at(" + a + ")", s -> s.at(a), t -> t.at(a));
                case 10: return both("print(" + a + ")", s -> s.print(a), t -> t.print(a));
                case 11: return alterAndPerhapsBack();
                case 12: return random.nextInt(3) == 0 ? cutSome() : open();
                case 13: return writeSome();
                case 14: return both("load()", SealedFiles::load, Told::load);
                case 15: return random.nextInt(3) == 0 ? loadChanged() : open();
                default: return putSome(b);
            }
        }

        private int newKey() {
            int secret = some(3) == 0 ? 2 + random.nextInt(32746) : some(40);
            return both("key(" + secret + ")", s -> s.key(secret), t -> t.key(secret));
        }

        private int putSome(int first) {
            int calls = 1 + random.nextInt(12);
            for (int i = 0; i < calls; i++) {
                int b = i == 0 ? first : random.nextInt(256);
                both("put(" + b + ")", s -> s.put(b) ? 1 : 0, t -> t.put(b));
            }
            return calls;
        }

        private int sealSome() {
            int who = random.nextInt(6) == 0 ? random.nextInt() : random.nextInt(1 << told.secrets.size());
            int f = random.nextInt();
            int seed = some(9);
            String call = "seal(" + who + ", " + f + ", " + seed + ")";
            return both(call, s -> s.seal(who, f, seed), t -> t.seal(who, f, seed));
        }

        private int open() {
            int key = random.nextInt(12) == 0 ? some(9) : random.nextInt(1 + told.secrets.size());
            return both("open(" + key + ")", s -> s.open(key), t -> t.open(key));
        }

        private int alterAndPerhapsBack() {
            int i = some(1 + told.file.length);
            int by = some(256);
            both("alter(" + i + ", " + by + ")", s -> s.alter(i, by), t -> t.alter(i, by));
            open();
            if (random.nextInt(5) != 0) {
                both("alter(" + i + ", " + by + ")", s -> s.alter(i, by), t -> t.alter(i, by));
            }
            return 3;
        }

        private int cutSome() {
            int n = some(1 + told.file.length);
            both("cut(" + n + ")", s -> s.cut(n) ? 1 : 0, t -> t.cut(n));
            return 1 + open();
        }

        private int writeSome() {
            int calls = random.nextInt(40) == 0 ? 165 : 1 + random.nextInt(3);
            for (int i = 0; i < calls; i++) {
                char c = random.nextInt(9) == 0 ? (char) random.nextInt(300) : CHARACTERS.charAt(random.nextInt(64));
                both("write((char) " + (int) c + ")", s -> s.write(c) ? 1 : 0, t -> t.write(c));
            }
            return calls;
        }

        /** The file's own printed form comes back, sometimes with characters behind it. */
        private int loadChanged() {
            String printed = Paper.printed(told.file) + "A".repeat(random.nextInt(2) * random.nextInt(15));
            for (char c : printed.toCharArray()) {
                both("write((char) " + (int) c + ")", s -> s.write(c) ? 1 : 0, t -> t.write(c));
            }
            both("load()", SealedFiles::load, Told::load);
            return printed.length() + 1 + open();
        }
    }
}
