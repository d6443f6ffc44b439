import java.util.NoSuchElementException;

/** Promises 11 (at), 12 (alter) and 13 (cut). */
public final class FileBytesTest {
    private static final Check check = new Check();

    public static void main(String[] args) {
        check.each(
            FileBytesTest::places,
            FileBytesTest::everyByteValue,
            FileBytesTest::noPlaceBelow,
            FileBytesTest::noPlaceBehind,
            FileBytesTest::noPlaceInAnEmptyFile,
            FileBytesTest::noPlaceAnyMore,
            FileBytesTest::altering,
            FileBytesTest::alteringByNothing,
            FileBytesTest::alteringByLowestBits,
            FileBytesTest::alteringAnswersUnsigned,
            FileBytesTest::alteringTwice,
            FileBytesTest::alteringFirstAndLast,
            FileBytesTest::alteringBelow,
            FileBytesTest::alteringBehind,
            FileBytesTest::alteringAnEmptyFile,
            FileBytesTest::alteringWhatWasCut,
            FileBytesTest::refusedAlterChangesNothing,
            FileBytesTest::cutting,
            FileBytesTest::cuttingTheLastByte,
            FileBytesTest::cuttingAll,
            FileBytesTest::cuttingBelow,
            FileBytesTest::cuttingAtItsLength,
            FileBytesTest::cuttingBeyond,
            FileBytesTest::cuttingAnEmptyFile,
            FileBytesTest::refusedCutChangesNothing,
            FileBytesTest::cutLeavesTheMessage);
        check.finish();
    }

    private static SealedFiles withFile() {
        SealedFiles x = new SealedFiles();
        Paper.load(x, new byte[] {10, (byte) 255, 0, (byte) 128, 50});
        return x;
    }

    private static SealedFiles withLength(int length) {
        SealedFiles x = new SealedFiles();
        Paper.load(x, Paper.message(length));
        return x;
    }

    private static void noPlace(SealedFiles x, int i) {
        check.due("at(" + i + ")", -1, () -> x.at(i));
    }

    private static void noAlter(SealedFiles x, int i) {
        check.refused("alter(" + i + ", 1)", NoSuchElementException.class, () -> x.alter(i, 1));
    }

    private static void places() {
        check.sentence("Promise 11: Byte i of the file");
        SealedFiles x = withFile();
        int[] want = {10, 255, 0, 128, 50};
        for (int place = 0; place < want.length; place++) {
            int i = place;
            check.due("at(" + i + ")", want[i], () -> x.at(i));
        }
        SealedFiles longest = withLength(120);
        for (int place = 0; place < 120; place++) {
            int i = place;
            check.due("at(" + i + ") of 120", 255 - 37 * i & 255, () -> longest.at(i));
        }
    }

    private static void everyByteValue() {
        check.sentence("Promise 11: Byte i of the file (0 .. 255)");
        for (int value = 0; value < 256; value++) {
            SealedFiles x = new SealedFiles();
            Paper.load(x, new byte[] {7, (byte) value});
            check.due("at(1)", value, () -> x.at(1));
        }
    }

    private static void noPlaceBelow() {
        check.sentence("Promise 11: -1 when there is none (below 0)");
        for (int i : new int[] {-1, -2, -5, -120, Integer.MIN_VALUE}) {
            noPlace(withFile(), i);
        }
    }

    private static void noPlaceBehind() {
        check.sentence("Promise 11: -1 when there is none (behind the last)");
        for (int length : new int[] {1, 5, 14, 119, 120}) {
            SealedFiles x = withLength(length);
            for (int i : new int[] {length, length + 1, 120, 121, 256, Integer.MAX_VALUE}) {
                noPlace(x, i);
            }
        }
    }

    private static void noPlaceInAnEmptyFile() {
        check.sentence("Promise 11: -1 when there is none (an empty file)");
        for (int i : new int[] {0, 1, -1, 119, 120}) {
            noPlace(new SealedFiles(), i);
        }
    }

    private static void noPlaceAnyMore() {
        check.sentence("Promise 11: -1 when there is none (any more)");
        SealedFiles x = withLength(120);
        x.cut(4);
        noPlace(x, 4);
        noPlace(x, 119);
        Paper.load(x, new byte[] {9});
        noPlace(x, 1);
        check.due("at(0)", 9, () -> x.at(0));
    }

    private static void altering() {
        check.sentence("Promise 12: Byte i of the file is altered by ^ with x: what it is then");
        SealedFiles x = withFile();
        check.due("alter(0, 3)", 9, () -> x.alter(0, 3));
        check.due("alter(3, 129)", 1, () -> x.alter(3, 129));
        check.due("at(0)", 9, () -> x.at(0));
        check.due("at(3)", 1, () -> x.at(3));
        check.compare("the file", "[9, -1, 0, 1, 50]", Paper.fileOf(x));
    }

    private static void alteringByNothing() {
        check.sentence("Promise 12: altered by ^ with x (0)");
        SealedFiles x = withFile();
        check.due("alter(0, 0)", 10, () -> x.alter(0, 0));
        check.due("alter(1, 0)", 255, () -> x.alter(1, 0));
        check.compare("the file", "[10, -1, 0, -128, 50]", Paper.fileOf(x));
    }

    private static void alteringByLowestBits() {
        check.sentence("Promise 12: (any int, its lowest 8 bits)");
        SealedFiles x = withFile();
        check.due("alter(2, 256)", 0, () -> x.alter(2, 256));
        check.due("alter(2, 511)", 255, () -> x.alter(2, 511));
        check.due("alter(2, MIN_VALUE)", 255, () -> x.alter(2, Integer.MIN_VALUE));
        check.due("alter(2, -256)", 255, () -> x.alter(2, -256));
        check.due("alter(2, MAX_VALUE)", 0, () -> x.alter(2, Integer.MAX_VALUE));
        check.due("alter(2, -1)", 255, () -> x.alter(2, -1));
        check.due("alter(2, -128)", 127, () -> x.alter(2, -128));
        check.due("at(2)", 127, () -> x.at(2));
    }

    private static void alteringAnswersUnsigned() {
        check.sentence("Promise 12: what it is then, 0 .. 255");
        for (int by = 0; by < 256; by++) {
            SealedFiles x = withFile();
            int value = by;
            check.due("alter(2, " + value + ")", value, () -> x.alter(2, value));
            check.due("at(2)", value, () -> x.at(2));
        }
    }

    private static void alteringTwice() {
        check.sentence("Promise 12: altered by ^ (twice: as it was)");
        SealedFiles x = new SealedFiles();
        x.key(9);
        x.put(1);
        x.seal(1, 2, 3);
        for (int place = 0; place < 15; place++) {
            int i = place;
            int was = x.at(i);
            x.alter(i, 90);
            check.due("alter(" + i + ", 90) again", was, () -> x.alter(i, 90));
        }
        check.due("open(0)", 1, () -> x.open(0));
    }

    private static void alteringFirstAndLast() {
        check.sentence("Promise 12: Byte i of the file (the first, the last)");
        for (int length : new int[] {1, 2, 120}) {
            SealedFiles x = withLength(length);
            int last = 255 - 37 * (length - 1) & 255;
            check.due("the last of " + length, last ^ 1, () -> x.alter(length - 1, 1));
            int first = length == 1 ? 254 : 255;
            check.due("the first of " + length, first ^ 2, () -> x.alter(0, 2));
        }
    }

    private static void alteringBelow() {
        check.sentence("Promise 12: NoSuchElementException when there is none (below 0)");
        for (int i : new int[] {-1, -2, -5, -120, Integer.MIN_VALUE}) {
            noAlter(withFile(), i);
        }
    }

    private static void alteringBehind() {
        check.sentence("Promise 12: NoSuchElementException when there is none (behind the last)");
        for (int length : new int[] {1, 5, 14, 119, 120}) {
            SealedFiles x = withLength(length);
            for (int i : new int[] {length, length + 1, 120, 121, 256, Integer.MAX_VALUE}) {
                noAlter(x, i);
            }
        }
    }

    private static void alteringAnEmptyFile() {
        check.sentence("Promise 12: NoSuchElementException when there is none (an empty file)");
        noAlter(new SealedFiles(), 0);
        noAlter(new SealedFiles(), -1);
    }

    private static void alteringWhatWasCut() {
        check.sentence("Promise 12: NoSuchElementException when there is none (any more)");
        SealedFiles x = withFile();
        x.cut(4);
        noAlter(x, 4);
        check.due("alter(3, 0)", 128, () -> x.alter(3, 0));
        x.cut(0);
        noAlter(x, 0);
    }

    private static void refusedAlterChangesNothing() {
        check.sentence("Promise 12: an alter that throws changes nothing");
        SealedFiles x = withFile();
        noAlter(x, 5);
        noAlter(x, -1);
        check.compare("the file", "[10, -1, 0, -128, 50]", Paper.fileOf(x));
    }

    private static void cutting() {
        check.sentence("Promise 13: The file loses its bytes from n on: true");
        for (int n = 1; n < 5; n++) {
            SealedFiles x = withFile();
            int kept = n;
            check.due("cut(" + n + ")", true, () -> x.cut(kept));
            check.due("count(1)", n, () -> x.count(1));
            check.due("at(" + n + ")", -1, () -> x.at(kept));
            check.due("at(0)", 10, () -> x.at(0));
        }
        SealedFiles x = withFile();
        x.cut(4);
        x.cut(3);
        check.compare("the file after two cuts", "[10, -1, 0]", Paper.fileOf(x));
    }

    private static void cuttingTheLastByte() {
        check.sentence("Promise 13: The file loses its bytes from n on (the last one alone)");
        for (int length : new int[] {1, 5, 120}) {
            SealedFiles x = withLength(length);
            check.due("cut of the last of " + length, true, () -> x.cut(length - 1));
            check.due("count(1)", length - 1, () -> x.count(1));
        }
    }

    private static void cuttingAll() {
        check.sentence("Promise 13: (0: all)");
        for (int length : new int[] {1, 5, 120}) {
            SealedFiles x = withLength(length);
            check.due("cut(0) of " + length, true, () -> x.cut(0));
            check.due("count(1)", 0, () -> x.count(1));
            check.due("at(0)", -1, () -> x.at(0));
            check.due("print(0)", -1, () -> x.print(0));
        }
    }

    private static void cuttingBelow() {
        check.sentence("Promise 13: false when n is below 0");
        for (int n : new int[] {-1, -2, -5, Integer.MIN_VALUE}) {
            SealedFiles x = withFile();
            check.due("cut(" + n + ")", false, () -> x.cut(n));
        }
    }

    private static void cuttingAtItsLength() {
        check.sentence("Promise 13: false when it has not more than n (just n)");
        for (int length : new int[] {1, 5, 119, 120}) {
            SealedFiles x = withLength(length);
            check.due("cut(" + length + ")", false, () -> x.cut(length));
        }
        SealedFiles x = withFile();
        x.cut(3);
        check.due("cut(3) again", false, () -> x.cut(3));
    }

    private static void cuttingBeyond() {
        check.sentence("Promise 13: false when it has not more than n (fewer)");
        for (int n : new int[] {6, 7, 119, 120, 121, Integer.MAX_VALUE}) {
            SealedFiles x = withFile();
            check.due("cut(" + n + ")", false, () -> x.cut(n));
        }
        SealedFiles x = withFile();
        x.cut(3);
        check.due("cut(4) behind cut(3)", false, () -> x.cut(4));
        check.due("count(1)", 3, () -> x.count(1));
    }

    private static void cuttingAnEmptyFile() {
        check.sentence("Promise 13: false when it has not more than n (an empty file)");
        for (int n : new int[] {0, 1, -1, 120}) {
            check.due("cut(" + n + ")", false, () -> new SealedFiles().cut(n));
        }
        SealedFiles x = withFile();
        x.cut(0);
        check.due("cut(0) again", false, () -> x.cut(0));
    }

    private static void refusedCutChangesNothing() {
        check.sentence("Promise 13: a cut that answers false changes nothing");
        SealedFiles x = withFile();
        for (int n : new int[] {-1, 5, 6, 120, Integer.MAX_VALUE, Integer.MIN_VALUE}) {
            x.cut(n);
        }
        check.compare("the file", "[10, -1, 0, -128, 50]", Paper.fileOf(x));
    }

    private static void cutLeavesTheMessage() {
        check.sentence("Promise 13: nothing but the file loses its bytes");
        SealedFiles x = withFile();
        Paper.put(x, Paper.message(7));
        Paper.write(x, "UwE");
        x.cut(0);
        check.due("count(0)", 7, () -> x.count(0));
        check.due("load()", 2, x::load);
    }
}
