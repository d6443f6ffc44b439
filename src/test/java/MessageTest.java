import java.util.NoSuchElementException;

/** Promises 4 (put), 5 (clear), 9 (read) and 10 (count). */
public final class MessageTest {
    private static final Check check = new Check();

    public static void main(String[] args) {
        check.each(
            MessageTest::everyByte,
            MessageTest::fullMessage,
            MessageTest::byteTooSmall,
            MessageTest::byteTooLarge,
            MessageTest::wrongByteWhenFull,
            MessageTest::refusedPutChangesNothing,
            MessageTest::putBehindWhatWasOpened,
            MessageTest::putBehindWhatWasCut,
            MessageTest::putBehindFullOpened,
            MessageTest::clearing,
            MessageTest::clearingOfEmpty,
            MessageTest::clearingOfFull,
            MessageTest::clearingOfOpened,
            MessageTest::clearingLeavesTheRest,
            MessageTest::reading,
            MessageTest::readingOfEmpty,
            MessageTest::readingBelow,
            MessageTest::readingBeyond,
            MessageTest::readingBeyondAfterClear,
            MessageTest::readingBeyondAfterOpen,
            MessageTest::countOfMessage,
            MessageTest::countOfFile,
            MessageTest::countOfKeys,
            MessageTest::countOfOthers);
        check.finish();
    }

    private static SealedFiles withMessage(int length) {
        SealedFiles x = new SealedFiles();
        Paper.put(x, Paper.message(length));
        return x;
    }

    /** A file of the given message is there, the message itself is cleared. */
    private static SealedFiles withSealed(int length) {
        SealedFiles x = withMessage(length);
        x.key(5);
        x.seal(1, 1, 1);
        x.clear();
        return x;
    }

    private static void noByte(SealedFiles x, int i) {
        check.refused("read(" + i + ")", NoSuchElementException.class, () -> x.read(i));
    }

    private static void everyByte() {
        check.sentence("Promise 4: Appends a byte to the message: true");
        for (int value = 0; value <= 255; value++) {
            int b = value;
            SealedFiles x = withMessage(1);
            check.due("put(" + b + ")", true, () -> x.put(b));
            check.due("read(0) after put(" + b + ")", 255, () -> x.read(0));
            check.due("read(1) after put(" + b + ")", b, () -> x.read(1));
            check.due("count(0) after put(" + b + ")", 2, () -> x.count(0));
        }
    }

    private static void fullMessage() {
        check.sentence("Promise 4: false when it has 40");
        SealedFiles x = new SealedFiles();
        for (int i = 0; i < 40; i++) {
            int b = 200 - i;
            check.due("put number " + (i + 1), true, () -> x.put(b));
        }
        check.due("put number 41", false, () -> x.put(1));
        check.due("put number 41 again", false, () -> x.put(0));
    }

    private static void byteTooSmall() {
        check.sentence("Promise 4: false when b is not 0 .. 255 (below)");
        SealedFiles x = new SealedFiles();
        for (int b : new int[] {-1, -2, -128, -255, -256, -65536, Integer.MIN_VALUE}) {
            check.due("put(" + b + ")", false, () -> x.put(b));
        }
        check.due("count(0)", 0, () -> x.count(0));
    }

    private static void byteTooLarge() {
        check.sentence("Promise 4: false when b is not 0 .. 255 (above)");
        SealedFiles x = new SealedFiles();
        for (int b : new int[] {256, 257, 511, 512, 65536, 65537, Integer.MAX_VALUE}) {
            check.due("put(" + b + ")", false, () -> x.put(b));
        }
        check.due("count(0)", 0, () -> x.count(0));
    }

    private static void wrongByteWhenFull() {
        check.sentence("Promise 4: false when it has 40, or b is not 0 .. 255 (both)");
        SealedFiles x = withMessage(40);
        check.due("put(-1) to 40", false, () -> x.put(-1));
        check.due("put(256) to 40", false, () -> x.put(256));
        check.due("count(0)", 40, () -> x.count(0));
    }

    private static void refusedPutChangesNothing() {
        check.sentence("Promise 4: a put that answers false changes nothing");
        SealedFiles x = withMessage(40);
        check.due("put(1) to 40", false, () -> x.put(1));
        check.compare("the message", Paper.text(Paper.message(40)), Paper.messageOf(x));
        SealedFiles y = withMessage(3);
        check.due("put(300) to 3", false, () -> y.put(300));
        check.compare("the message", Paper.text(Paper.message(3)), Paper.messageOf(y));
    }

    private static void putBehindWhatWasOpened() {
        check.sentence("Promise 4: (also to one that was opened)");
        SealedFiles x = withSealed(3);
        check.due("open(0)", 3, () -> x.open(0));
        check.due("put(77)", true, () -> x.put(77));
        check.due("count(0)", 4, () -> x.count(0));
        check.due("read(2)", Paper.message(3)[2] & 255, () -> x.read(2));
        check.due("read(3)", 77, () -> x.read(3));
    }

    private static void putBehindWhatWasCut() {
        check.sentence("Promise 4: (also to one that was opened), of which a piece was cut off");
        SealedFiles x = withSealed(16);
        x.cut(22);
        x.put(1);
        check.due("open(0)", SealedFiles.CUT, () -> x.open(0));
        check.due("put(77)", true, () -> x.put(77));
        check.due("read(0)", 77, () -> x.read(0));
        check.due("count(0)", 1, () -> x.count(0));
    }

    private static void putBehindFullOpened() {
        check.sentence("Promise 4: false when it has 40 (one that was opened)");
        SealedFiles x = withSealed(40);
        check.due("open(0)", 40, () -> x.open(0));
        check.due("put(77)", false, () -> x.put(77));
        SealedFiles y = withSealed(39);
        check.due("open(0)", 39, () -> y.open(0));
        check.due("put(77) as the 40th", true, () -> y.put(77));
        check.due("put(77) as the 41st", false, () -> y.put(77));
    }

    private static void clearing() {
        check.sentence("Promise 5: The message is empty then: how many bytes it had");
        SealedFiles x = withMessage(7);
        check.due("clear() of 7", 7, x::clear);
        check.due("count(0)", 0, () -> x.count(0));
        check.due("put(9)", true, () -> x.put(9));
        check.due("read(0)", 9, () -> x.read(0));
        check.due("clear() of 1", 1, x::clear);
    }

    private static void clearingOfEmpty() {
        check.sentence("Promise 5: how many bytes it had (none)");
        SealedFiles x = new SealedFiles();
        check.due("clear() of a new object", 0, x::clear);
        x.put(1);
        x.clear();
        check.due("clear() again", 0, x::clear);
    }

    private static void clearingOfFull() {
        check.sentence("Promise 5: how many bytes it had (40)");
        SealedFiles x = withMessage(40);
        x.put(1);
        check.due("clear() of 40", 40, x::clear);
        check.due("put(1)", true, () -> x.put(1));
        check.due("count(0)", 1, () -> x.count(0));
    }

    private static void clearingOfOpened() {
        check.sentence("Promise 5: how many bytes it had (one that was opened)");
        SealedFiles x = withSealed(12);
        x.open(0);
        check.due("clear()", 12, x::clear);
        check.due("count(0)", 0, () -> x.count(0));
    }

    private static void clearingLeavesTheRest() {
        check.sentence("Promise 5: nothing but the message is empty then");
        SealedFiles x = withSealed(12);
        x.open(0);
        Paper.write(x, "UwE");
        x.clear();
        check.due("count(1)", 28, () -> x.count(1));
        check.due("count(2)", 1, () -> x.count(2));
        check.due("pieces()", 2, x::pieces);
        check.due("open(0)", 12, () -> x.open(0));
        check.due("load()", 2, x::load);
    }

    private static void reading() {
        check.sentence("Promise 9: Byte i of the message");
        SealedFiles x = withMessage(40);
        for (int at = 0; at < 40; at++) {
            int i = at;
            check.due("read(" + i + ")", 255 - 37 * i & 255, () -> x.read(i));
        }
    }

    private static void readingOfEmpty() {
        check.sentence("Promise 9: NoSuchElementException when there is none (an empty message)");
        SealedFiles x = new SealedFiles();
        for (int i : new int[] {0, 1, -1, 39, 40}) {
            noByte(x, i);
        }
    }

    private static void readingBelow() {
        check.sentence("Promise 9: NoSuchElementException when there is none (below 0)");
        SealedFiles x = withMessage(40);
        for (int i : new int[] {-1, -2, -40, Integer.MIN_VALUE}) {
            noByte(x, i);
        }
    }

    private static void readingBeyond() {
        check.sentence("Promise 9: NoSuchElementException when there is none (behind the last)");
        for (int length : new int[] {1, 2, 8, 39, 40}) {
            SealedFiles x = withMessage(length);
            check.due("the last of " + length, Paper.message(length)[length - 1] & 255, () -> x.read(length - 1));
            noByte(x, length);
            noByte(x, length + 1);
            noByte(x, Integer.MAX_VALUE);
        }
    }

    private static void readingBeyondAfterClear() {
        check.sentence("Promise 9: NoSuchElementException when there is none (any more)");
        SealedFiles x = withMessage(40);
        x.clear();
        noByte(x, 0);
        noByte(x, 39);
        x.put(3);
        check.due("read(0)", 3, () -> x.read(0));
        noByte(x, 1);
    }

    private static void readingBeyondAfterOpen() {
        check.sentence("Promise 9: NoSuchElementException when there is none (in what was opened)");
        SealedFiles x = withSealed(3);
        Paper.put(x, Paper.message(40));
        x.open(0);
        check.due("read(2)", Paper.message(3)[2] & 255, () -> x.read(2));
        noByte(x, 3);
        noByte(x, 39);
    }

    private static void countOfMessage() {
        check.sentence("Promise 10: How many bytes the message (what = 0) has");
        for (int length : new int[] {0, 1, 39, 40}) {
            SealedFiles x = withMessage(length);
            check.due("count(0) of " + length, length, () -> x.count(0));
        }
        SealedFiles x = withSealed(17);
        x.open(0);
        check.due("count(0) of what was opened", 17, () -> x.count(0));
    }

    private static void countOfFile() {
        check.sentence("Promise 10: How many bytes the file (1) has");
        SealedFiles x = withSealed(9);
        check.due("count(1)", 2 + 8 + 2 + 9 + 4, () -> x.count(1));
        x.cut(20);
        check.due("count(1) after cut(20)", 20, () -> x.count(1));
        x.load();
        check.due("count(1) after load()", 0, () -> x.count(1));
        Paper.load(x, Paper.message(120));
        check.due("count(1) at the most", 120, () -> x.count(1));
    }

    private static void countOfKeys() {
        check.sentence("Promise 10: how many keys there are (2)");
        SealedFiles x = new SealedFiles();
        for (int number = 0; number < 4; number++) {
            check.due("count(2)", number, () -> x.count(2));
            x.key(2);
        }
        check.due("count(2)", 4, () -> x.count(2));
    }

    private static void countOfOthers() {
        check.sentence("Promise 10: -1 for others");
        SealedFiles x = withSealed(9);
        for (int what : new int[] {3, 4, -1, -2, 256, 257, 258, Integer.MAX_VALUE, Integer.MIN_VALUE}) {
            check.due("count(" + what + ")", -1, () -> x.count(what));
        }
    }
}
