import java.util.NoSuchElementException;

/** 'What it is': an object answers as promised up to its 512th call, whatever the calls are. */
public final class CallsTest {
    private static final int CALLS = 512;

    private static final Check check = new Check();

    public static void main(String[] args) {
        check.sentence("An object is used for at most 512 calls after it has been made");
        check.each(
            CallsTest::puts,
            CallsTest::keys,
            CallsTest::writes,
            CallsTest::loads,
            CallsTest::sealsAndOpens,
            CallsTest::opensOfWhatIsWrong,
            CallsTest::alterations,
            CallsTest::sealsAndCuts,
            CallsTest::looks,
            CallsTest::refusals);
        check.finish();
    }

    private static void puts() {
        SealedFiles x = new SealedFiles();
        for (int call = 1; call <= CALLS; call++) {
            check.due("put as call " + call, call <= 40, () -> x.put(5));
        }
    }

    private static void keys() {
        SealedFiles x = new SealedFiles();
        for (int call = 1; call <= CALLS; call++) {
            if (call <= 4) {
                check.due("key as call " + call, call - 1, () -> x.key(5));
            } else {
                check.refused("key as call " + call, IllegalStateException.class, () -> x.key(5));
            }
        }
    }

    private static void writes() {
        SealedFiles x = new SealedFiles();
        for (int call = 1; call < CALLS; call++) {
            check.due("write as call " + call, call <= 160, () -> x.write('b'));
        }
        check.due("load as call 512", 120, x::load);
    }

    private static void loads() {
        SealedFiles x = new SealedFiles();
        for (int call = 2; call <= CALLS; call += 2) {
            x.write('A');
            check.refused("load as call " + call, IllegalArgumentException.class, x::load);
        }
    }

    private static void sealsAndOpens() {
        SealedFiles x = new SealedFiles();
        x.key(12345);
        x.key(2);
        x.key(32747);
        for (int i = 0; i < 40; i++) {
            x.put(i);
        }
        for (int call = 44; call < CALLS; call += 2) {
            int f = call * 99991;
            check.due("seal as call " + call, 78, () -> x.seal(7, f, f));
            check.due("open as call " + (call + 1), 40, () -> x.open(f % 3));
        }
    }

    private static void opensOfWhatIsWrong() {
        SealedFiles x = new SealedFiles();
        x.key(9);
        x.put(77);
        x.seal(1, 3, 3);
        x.alter(10, 1);
        for (int call = 5; call <= CALLS; call++) {
            check.due("open as call " + call, SealedFiles.HEAD, () -> x.open(0));
        }
    }

    private static void alterations() {
        SealedFiles x = new SealedFiles();
        x.key(9);
        x.seal(1, 3, 3);
        for (int call = 3; call <= CALLS; call++) {
            int due = call % 2 == 0 ? 83 : 83 ^ 255;
            check.due("alter as call " + call, due, () -> x.alter(0, -1));
        }
    }

    private static void sealsAndCuts() {
        SealedFiles x = new SealedFiles();
        x.key(9);
        for (int call = 2; call < CALLS; call += 2) {
            check.due("seal as call " + call, 14, () -> x.seal(1, 3, 3));
            check.due("cut as call " + (call + 1), true, () -> x.cut(0));
        }
    }

    private static void looks() {
        SealedFiles x = new SealedFiles();
        x.key(9);
        x.put(250);
        x.seal(1, 3, 3);
        for (int call = 4; call + 5 <= CALLS; call += 6) {
            check.due("read as call " + call, 250, () -> x.read(0));
            check.due("at as call " + (call + 1), 83, () -> x.at(0));
            check.due("print as call " + (call + 2), 'U', () -> x.print(0));
            check.due("count as call " + (call + 3), 15, () -> x.count(1));
            check.due("address as call " + (call + 4), 512, () -> x.address(0));
            check.due("pieces as call " + (call + 5), 0, x::pieces);
        }
    }

    private static void refusals() {
        SealedFiles x = new SealedFiles();
        for (int call = 1; call + 3 <= CALLS; call += 4) {
            check.refused("key as call " + call, IllegalArgumentException.class, () -> x.key(1));
            check.refused("seal as call " + (call + 1), IllegalArgumentException.class, () -> x.seal(1, 1, 1));
            check.refused("open as call " + (call + 2), IllegalArgumentException.class, () -> x.open(0));
            check.refused("read as call " + (call + 3), NoSuchElementException.class, () -> x.read(0));
        }
    }
}
