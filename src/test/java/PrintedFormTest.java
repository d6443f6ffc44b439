import java.util.Arrays;

/** Promises 14 (print), 15 (write) and 16 (load). */
public final class PrintedFormTest {
    private static final String CHARACTERS =
        "ABCDEFGHIJKLMNOPQRSTUVWXYZabcdefghijklmnopqrstuvwxyz0123456789+-";

    public static void main(String[] args) {
        Check check = new Check();
        everyLength(check);
        everyCharacterIsPrinted(check);
        everyCharacterIsWritten(check);
        fullDraft(check);
        tooManyCharacters(check);
        everyFilling(check);
        whatStaysWhenLoadThrows(check);
        draftStaysBesideTheRest(check);
        check.finish();
    }

    private static void everyLength(Check check) {
        for (int length = 0; length <= 120; length++) {
            byte[] row = Paper.message(length);
            String printed = Paper.printed(row);
            SealedFiles x = new SealedFiles();
            Paper.write(x, printed);
            check.due("load() of " + length + " bytes", length, x::load);
            check.compare("the file of " + length + " bytes", Arrays.toString(row), Paper.fileOf(x));
            for (int at = 0; at < printed.length(); at++) {
                int i = at;
                check.due("print(" + i + ") of " + length + " bytes", printed.charAt(i), () -> x.print(i));
            }
            int[] none = {printed.length(), printed.length() + 1, -1, Integer.MAX_VALUE, Integer.MIN_VALUE};
            for (int i : none) {
                check.due("print(" + i + ") of " + length + " bytes", -1, () -> x.print(i));
            }
        }
    }

    private static void everyCharacterIsPrinted(Check check) {
        for (int value = 0; value < 64; value++) {
            SealedFiles x = new SealedFiles();
            Paper.load(x, new byte[] {(byte) (value << 2)});
            check.due("print(0) of the bits " + value, CHARACTERS.charAt(value), () -> x.print(0));
            check.due("print(1) of the bits " + value, 'A', () -> x.print(1));
        }
    }

    private static void everyCharacterIsWritten(Check check) {
        for (int code = 0; code <= Character.MAX_VALUE; code++) {
            char c = (char) code;
            SealedFiles x = new SealedFiles();
            int value = CHARACTERS.indexOf(c);
            check.due("write((char) " + code + ")", value >= 0, () -> x.write(c));
            if (value >= 0) {
                x.write('Q');
                check.due("load() behind write((char) " + code + ")", 1, x::load);
                check.due("at(0) then", value << 2 | 1, () -> x.at(0));
            } else {
                check.due("load() behind write((char) " + code + ")", 0, x::load);
            }
        }
    }

    private static void fullDraft(Check check) {
        SealedFiles x = new SealedFiles();
        for (int i = 0; i < 160; i++) {
            check.due("write number " + i, true, () -> x.write('-'));
        }
        check.due("the 161st write", false, () -> x.write('-'));
        check.due("the 161st write of a wrong character", false, () -> x.write('/'));
        check.due("load() of 160 characters", 120, x::load);
        check.due("at(119)", 255, () -> x.at(119));
        check.due("write after load()", true, () -> x.write('-'));
    }

    private static void tooManyCharacters(Check check) {
        for (int length = 1; length <= 160; length++) {
            SealedFiles x = new SealedFiles();
            Paper.write(x, "A".repeat(length));
            if (length % 4 == 1) {
                check.refused("load() of " + length + " A", IllegalArgumentException.class, x::load);
            } else {
                check.due("load() of " + length + " A", length * 3 / 4, x::load);
            }
        }
    }

    private static void everyFilling(Check check) {
        for (int value = 0; value < 64; value++) {
            filling(check, "-", CHARACTERS.charAt(value), value % 16 == 0);
            filling(check, "--", CHARACTERS.charAt(value), value % 4 == 0);
            filling(check, "---", CHARACTERS.charAt(value), true);
            filling(check, "-----", CHARACTERS.charAt(value), value % 16 == 0);
        }
    }

    private static void filling(Check check, String before, char last, boolean right) {
        SealedFiles x = new SealedFiles();
        Paper.write(x, before + last);
        if (right) {
            check.due("load() of " + before + last, (before.length() + 1) * 3 / 4, x::load);
        } else {
            check.refused("load() of " + before + last, IllegalArgumentException.class, x::load);
        }
    }

    private static void whatStaysWhenLoadThrows(Check check) {
        String[] wrong = {"U", "UwF", "UR", "UwEAA"};
        for (String text : wrong) {
            SealedFiles x = new SealedFiles();
            Paper.load(x, new byte[] {1, 2, 3});
            Paper.write(x, text);
            check.refused("load() of " + text, IllegalArgumentException.class, x::load);
            check.compare("the file after that", "[1, 2, 3]", Paper.fileOf(x));
            Paper.write(x, "UwE");
            check.due("the next load()", 2, x::load);
            check.compare("the file after that", "[83, 1]", Paper.fileOf(x));
            check.due("load() of the draft that is empty then", 0, x::load);
            check.due("count(1) after that", 0, () -> x.count(1));
        }
    }

    private static void draftStaysBesideTheRest(Check check) {
        SealedFiles x = new SealedFiles();
        x.key(9);
        Paper.write(x, "Uw");
        x.put(1);
        x.seal(1, 2, 3);
        x.open(0);
        x.alter(0, 1);
        x.cut(3);
        x.clear();
        x.write('_');
        x.write('E');
        check.due("load() of what was written in between", 2, x::load);
        check.compare("the file after that", "[83, 1]", Paper.fileOf(x));
    }
}
