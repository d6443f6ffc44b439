/** The examples of README.md, call by call, so that what it tells stays true. */
public final class ReadmeTest {
    private static final Check check = new Check();

    public static void main(String[] args) {
        check.each(
            ReadmeTest::sealAndOpen,
            ReadmeTest::printAndSpoil);
        check.finish();
    }

    private static void sealAndOpen() {
        check.sentence("README.md: Seal a message for two keys, and open it by one of them");
        SealedFiles x = new SealedFiles();
        check.due("key(12345)", 0, () -> x.key(12345));
        check.due("key(777)", 1, () -> x.key(777));
        check.due("put(72)", true, () -> x.put(72));
        check.due("put(105)", true, () -> x.put(105));
        check.due("seal(1 << 0 | 1 << 1, 99, 7)", 24, () -> x.seal(1 << 0 | 1 << 1, 99, 7));
        check.due("clear()", 2, x::clear);
        check.due("open(1)", 2, () -> x.open(1));
        check.due("read(0)", 72, () -> x.read(0));
        check.due("pieces()", 1, x::pieces);
    }

    private static SealedFiles sealed() {
        SealedFiles x = new SealedFiles();
        x.key(12345);
        x.key(777);
        x.put(72);
        x.put(105);
        x.seal(3, 99, 7);
        return x;
    }

    private static void printAndSpoil() {
        check.sentence("README.md: Hand the file to another object by its printed form");
        SealedFiles x = sealed();
        SealedFiles y = new SealedFiles();
        check.due("key(777)", 0, () -> y.key(777));
        for (int i = 0; x.print(i) >= 0; i++) {
            y.write((char) x.print(i));
        }
        check.due("load()", 24, y::load);
        check.due("open(0)", 2, () -> y.open(0));
        check.due("alter(20, 1)", x.at(20) ^ 1, () -> y.alter(20, 1));
        check.due("open(0) of it altered", SealedFiles.SPOILED, () -> y.open(0));
        check.due("cut(21)", true, () -> y.cut(21));
        check.due("open(0) of it cut", SealedFiles.SHAPE, () -> y.open(0));
    }
}
