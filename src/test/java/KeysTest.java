/** Promises 2 (key) and 3 (address). */
public final class KeysTest {
    public static void main(String[] args) {
        Check check = new Check();
        wrongSecrets(check);
        fourKeys(check);
        everyAddress(check);
        check.finish();
    }

    private static void wrongSecrets(Check check) {
        SealedFiles x = new SealedFiles();
        int[] wrong = {1, 0, -1, -2, 32748, 32749, 32750, 65538, Integer.MAX_VALUE, Integer.MIN_VALUE};
        for (int secret : wrong) {
            check.refused("key(" + secret + ")", IllegalArgumentException.class, () -> x.key(secret));
        }
        check.due("count(2) after wrong secrets", 0, () -> x.count(2));
        check.due("key(2)", 0, () -> x.key(2));
    }

    private static void fourKeys(Check check) {
        SealedFiles x = new SealedFiles();
        check.due("key(32747)", 0, () -> x.key(32747));
        check.due("key(2)", 1, () -> x.key(2));
        check.due("key(2) with another's secret", 2, () -> x.key(2));
        check.due("address(3) before the fourth", -1, () -> x.address(3));
        check.due("key(77)", 3, () -> x.key(77));
        check.refused("a fifth key", IllegalStateException.class, () -> x.key(5));
        check.refused("a fifth key with a wrong secret", IllegalArgumentException.class, () -> x.key(1));
        check.due("count(2)", 4, () -> x.count(2));
        check.due("address(0)", 16375, () -> x.address(0));
        check.due("address(1)", 4, () -> x.address(1));
        check.due("address(2)", 4, () -> x.address(2));
        check.due("address(3)", Paper.address(77), () -> x.address(3));
        int[] none = {4, 5, -1, Integer.MAX_VALUE, Integer.MIN_VALUE};
        for (int key : none) {
            check.due("address(" + key + ")", -1, () -> x.address(key));
        }
    }

    private static void everyAddress(Check check) {
        for (int secret = 2; secret <= 32747; secret++) {
            SealedFiles x = new SealedFiles();
            x.key(secret);
            check.due("the address of " + secret, Paper.address(secret), () -> x.address(0));
        }
    }
}
