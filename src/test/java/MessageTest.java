import java.util.NoSuchElementException;

/** Promises 4 (put), 5 (clear), 9 (read) and 10 (count). */
public final class MessageTest {
    public static void main(String[] args) {
        Check check = new Check();
        everyByte(check);
        fullMessage(check);
        clearing(check);
        counting(check);
        puttingBehindWhatWasOpened(check);
        check.finish();
    }

    private static void everyByte(Check check) {
        for (int value = 0; value <= 255; value++) {
            int b = value;
            SealedFiles x = new SealedFiles();
            check.due("put(" + b + ")", true, () -> x.put(b));
            check.due("read(0) after put(" + b + ")", b, () -> x.read(0));
        }
        SealedFiles x = new SealedFiles();
        int[] wrong = {-1, 256, 257, -255, 65536, Integer.MAX_VALUE, Integer.MIN_VALUE};
        for (int b : wrong) {
            check.due("put(" + b + ")", false, () -> x.put(b));
        }
        check.due("count(0) after wrong bytes", 0, () -> x.count(0));
    }

    private static void fullMessage(Check check) {
        SealedFiles x = new SealedFiles();
        for (int i = 0; i < 40; i++) {
            int b = 200 - i;
            check.due("put number " + i, true, () -> x.put(b));
        }
        check.due("the 41st put", false, () -> x.put(1));
        check.due("count(0) when full", 40, () -> x.count(0));
        for (int i = 0; i < 40; i++) {
            int at = i;
            check.due("read(" + at + ")", 200 - at, () -> x.read(at));
        }
        int[] none = {40, 41, -1, Integer.MAX_VALUE, Integer.MIN_VALUE};
        for (int i : none) {
            check.refused("read(" + i + ")", NoSuchElementException.class, () -> x.read(i));
        }
    }

    private static void clearing(Check check) {
        SealedFiles x = new SealedFiles();
        Paper.put(x, Paper.message(40));
        check.due("clear() of 40", 40, x::clear);
        check.due("clear() again", 0, x::clear);
        check.refused("read(0) after clear()", NoSuchElementException.class, () -> x.read(0));
        check.due("put after clear()", true, () -> x.put(9));
        check.due("read(0) after clear() and put(9)", 9, () -> x.read(0));
        check.due("clear() of 1", 1, x::clear);
    }

    private static void counting(Check check) {
        SealedFiles x = new SealedFiles();
        x.key(5);
        x.key(6);
        Paper.put(x, Paper.message(9));
        x.seal(3, 1, 1);
        check.due("count(0)", 9, () -> x.count(0));
        check.due("count(1)", 2 + 16 + 2 + 9 + 4, () -> x.count(1));
        check.due("count(2)", 2, () -> x.count(2));
        int[] others = {3, 4, -1, Integer.MAX_VALUE, Integer.MIN_VALUE};
        for (int what : others) {
            check.due("count(" + what + ")", -1, () -> x.count(what));
        }
    }

    private static void puttingBehindWhatWasOpened(Check check) {
        SealedFiles x = new SealedFiles();
        x.key(5);
        Paper.put(x, Paper.message(3));
        x.seal(1, 1, 1);
        x.clear();
        x.open(0);
        check.due("put behind an opened message", true, () -> x.put(77));
        check.due("count(0) then", 4, () -> x.count(0));
        check.due("read(2) then", Paper.message(3)[2] & 255, () -> x.read(2));
        check.due("read(3) then", 77, () -> x.read(3));
    }
}
