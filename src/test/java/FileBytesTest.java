import java.util.NoSuchElementException;

/** Promises 11 (at), 12 (alter) and 13 (cut). */
public final class FileBytesTest {
    private static final int[] NO_PLACES = {5, 6, 120, -1, Integer.MAX_VALUE, Integer.MIN_VALUE};

    public static void main(String[] args) {
        Check check = new Check();
        places(check);
        altering(check);
        cutting(check);
        check.finish();
    }

    private static SealedFiles withFile() {
        SealedFiles x = new SealedFiles();
        Paper.load(x, new byte[] {10, (byte) 255, 0, (byte) 128, 50});
        return x;
    }

    private static void places(Check check) {
        SealedFiles x = withFile();
        int[] want = {10, 255, 0, 128, 50};
        for (int place = 0; place < want.length; place++) {
            int i = place;
            check.due("at(" + i + ")", want[i], () -> x.at(i));
        }
        for (int i : NO_PLACES) {
            check.due("at(" + i + ")", -1, () -> x.at(i));
        }
    }

    private static void altering(Check check) {
        SealedFiles x = withFile();
        check.due("alter(0, 0)", 10, () -> x.alter(0, 0));
        check.due("alter(0, 3)", 9, () -> x.alter(0, 3));
        check.due("at(0) then", 9, () -> x.at(0));
        check.due("alter(1, -1)", 0, () -> x.alter(1, -1));
        check.due("alter(1, MIN_VALUE)", 0, () -> x.alter(1, Integer.MIN_VALUE));
        check.due("alter(2, 256)", 0, () -> x.alter(2, 256));
        check.due("alter(2, 511)", 255, () -> x.alter(2, 511));
        check.due("alter(4, MAX_VALUE)", 205, () -> x.alter(4, Integer.MAX_VALUE));
        for (int i : NO_PLACES) {
            check.refused("alter(" + i + ", 1)", NoSuchElementException.class, () -> x.alter(i, 1));
        }
        check.compare("the file then", "[9, 0, -1, -128, -51]", Paper.fileOf(x));
        x.cut(4);
        check.refused("alter(4, 1) after cut(4)", NoSuchElementException.class, () -> x.alter(4, 1));
    }

    private static void cutting(Check check) {
        SealedFiles x = withFile();
        int[] wrong = {5, 6, 121, -1, Integer.MAX_VALUE, Integer.MIN_VALUE};
        for (int n : wrong) {
            check.due("cut(" + n + ")", false, () -> x.cut(n));
        }
        check.due("count(1) after wrong cuts", 5, () -> x.count(1));
        check.due("cut(4)", true, () -> x.cut(4));
        check.due("at(4) after cut(4)", -1, () -> x.at(4));
        check.compare("the file after cut(4)", "[10, -1, 0, -128]", Paper.fileOf(x));
        check.due("cut(4) again", false, () -> x.cut(4));
        check.due("cut(1)", true, () -> x.cut(1));
        check.due("cut(0)", true, () -> x.cut(0));
        check.due("cut(0) again", false, () -> x.cut(0));
        check.due("count(1) after cut(0)", 0, () -> x.count(1));
    }
}
