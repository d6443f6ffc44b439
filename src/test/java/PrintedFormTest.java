/** Promises 14 (print), 15 (write) and 16 (load). */
public final class PrintedFormTest {
    private static final String CHARACTERS =
        "ABCDEFGHIJKLMNOPQRSTUVWXYZabcdefghijklmnopqrstuvwxyz0123456789+-";

    private static final Check check = new Check();

    public static void main(String[] args) {
        printing();
        writing();
        loading();
        check.finish();
    }

    private static void printing() {
        check.each(
            PrintedFormTest::everyLengthIsPrinted,
            PrintedFormTest::everyCharacterIsPrinted,
            PrintedFormTest::highestBitsFirst,
            PrintedFormTest::filledUp,
            PrintedFormTest::noneMoreThanItTakes,
            PrintedFormTest::noCharacterBelow,
            PrintedFormTest::noCharacterBehind,
            PrintedFormTest::noCharacterOfAnEmptyFile,
            PrintedFormTest::noCharacterAnyMore);
    }

    private static void writing() {
        check.each(
            PrintedFormTest::everyCharacterIsWritten,
            PrintedFormTest::everyOtherCharacter,
            PrintedFormTest::fullDraft,
            PrintedFormTest::wrongCharacterInAFullDraft,
            PrintedFormTest::refusedWriteChangesNothing,
            PrintedFormTest::draftStaysBesideTheRest);
    }

    private static void loading() {
        check.each(
            PrintedFormTest::everyLengthIsLoaded,
            PrintedFormTest::noCharacters,
            PrintedFormTest::emptyThenWhenRight,
            PrintedFormTest::emptyThenWhenWrong,
            PrintedFormTest::emptyThenHasRoomAgain,
            PrintedFormTest::inTheSteadOfALongerFile,
            PrintedFormTest::longestDraft,
            PrintedFormTest::oneCharacterTooMany,
            PrintedFormTest::fillingBitsOfTwo,
            PrintedFormTest::fillingBitsOfThree,
            PrintedFormTest::fillingBitsBehindMore,
            PrintedFormTest::noFillingBitsOfFour,
            PrintedFormTest::fileStaysWhenItThrows,
            PrintedFormTest::otherThingsStay);
    }

    private static SealedFiles withFile(int... values) {
        SealedFiles x = new SealedFiles();
        Paper.load(x, new Paper().raw(values).made());
        return x;
    }

    private static SealedFiles withDraft(String text) {
        SealedFiles x = new SealedFiles();
        Paper.write(x, text);
        return x;
    }

    private static void printed(SealedFiles x, String want) {
        for (int at = 0; at < want.length(); at++) {
            int i = at;
            check.due("print(" + i + ")", want.charAt(i), () -> x.print(i));
        }
        check.due("print(" + want.length() + ")", -1, () -> x.print(want.length()));
    }

    private static void loads(String text) {
        SealedFiles x = withDraft(text);
        check.due("load() of " + text, text.length() * 3 / 4, x::load);
    }

    private static void throwsAt(String text) {
        SealedFiles x = withDraft(text);
        check.refused("load() of " + text, IllegalArgumentException.class, x::load);
    }

    private static void everyLengthIsPrinted() {
        check.sentence("Promise 14: Character i of the file's PRINTED form");
        for (int length = 0; length <= 120; length++) {
            SealedFiles x = new SealedFiles();
            Paper.load(x, Paper.message(length));
            printed(x, Paper.printed(Paper.message(length)));
        }
    }

    private static void everyCharacterIsPrinted() {
        check.sentence("Promise 14: 0 .. 25 A .. Z, 26 .. 51 a .. z, 52 .. 61 0 .. 9, 62 +, 63 -");
        for (int value = 0; value < 64; value++) {
            SealedFiles x = withFile(value << 2);
            check.due("print(0) of the bits " + value, CHARACTERS.charAt(value), () -> x.print(0));
        }
        int[] edges = {0, 25, 26, 51, 52, 61, 62, 63};
        String letters = "AZaz09+-";
        for (int i = 0; i < edges.length; i++) {
            int place = i;
            SealedFiles x = withFile(edges[i] << 2, 0, 0);
            check.due("print(0) of " + edges[i], letters.charAt(place), () -> x.print(0));
        }
    }

    private static void highestBitsFirst() {
        check.sentence("Promise 14: six bits each, the highest of the first byte first");
        printed(withFile(128, 0, 0), "gAAA");
        printed(withFile(3, 240, 0), "A-AA");
        printed(withFile(0, 15, 192), "AA-A");
        printed(withFile(0, 0, 63), "AAA-");
        printed(withFile(0, 0, 1), "AAAB");
    }

    private static void filledUp() {
        check.sentence("Promise 14: the last one filled up with bits 0");
        printed(withFile(255), "-w");
        printed(withFile(255, 255), "--8");
        printed(withFile(255, 255, 255), "----");
        printed(withFile(255, 255, 255, 1), "----AQ");
        SealedFiles x = withFile(255, 255, 255);
        x.cut(1);
        printed(x, "-w");
        SealedFiles y = withFile(255, 255, 255);
        y.cut(2);
        printed(y, "--8");
    }

    private static void noneMoreThanItTakes() {
        check.sentence("Promise 14: (none more than it takes for all bytes)");
        for (int length = 1; length <= 120; length++) {
            SealedFiles x = new SealedFiles();
            Paper.load(x, new byte[length]);
            int characters = (length * 8 + 5) / 6;
            check.due("the last character of " + length, 'A', () -> x.print(characters - 1));
            check.due("one more of " + length, -1, () -> x.print(characters));
        }
    }

    private static void noCharacterBelow() {
        check.sentence("Promise 14: -1 when there is none (below 0)");
        for (int i : new int[] {-1, -2, -4, -160, Integer.MIN_VALUE, Integer.MIN_VALUE + 1}) {
            check.due("print(" + i + ")", -1, () -> withFile(1, 2, 3).print(i));
        }
    }

    private static void noCharacterBehind() {
        check.sentence("Promise 14: -1 when there is none (behind the last)");
        // A product of six with the larger ones wraps to a small number.
        int[] far = {4, 5, 160, 161, Integer.MAX_VALUE, 1 << 30, 715827883, 1431655766};
        for (int i : far) {
            check.due("print(" + i + ")", -1, () -> withFile(1, 2, 3).print(i));
        }
        SealedFiles longest = new SealedFiles();
        Paper.load(longest, Paper.message(120));
        check.due("print(160) of 120 bytes", -1, () -> longest.print(160));
    }

    private static void noCharacterOfAnEmptyFile() {
        check.sentence("Promise 14: -1 when there is none (an empty file)");
        for (int i : new int[] {0, 1, -1}) {
            check.due("print(" + i + ")", -1, () -> new SealedFiles().print(i));
        }
    }

    private static void noCharacterAnyMore() {
        check.sentence("Promise 14: -1 when there is none (any more)");
        SealedFiles x = withFile(1, 2, 3, 4, 5, 6);
        x.cut(3);
        check.due("print(4) after cut(3)", -1, () -> x.print(4));
        x.cut(0);
        check.due("print(0) after cut(0)", -1, () -> x.print(0));
    }

    private static void everyCharacterIsWritten() {
        check.sentence("Promise 15: Appends a character to the draft: true");
        for (int value = 0; value < 64; value++) {
            char c = CHARACTERS.charAt(value);
            SealedFiles x = new SealedFiles();
            check.due("write " + c, true, () -> x.write(c));
            x.write('Q');
            check.due("load()", 1, x::load);
            check.due("at(0)", value << 2 | 1, () -> x.at(0));
        }
    }

    private static void everyOtherCharacter() {
        check.sentence("Promise 15: false when it is none of those that are printed");
        for (int code = 0; code <= Character.MAX_VALUE; code++) {
            char c = (char) code;
            if (CHARACTERS.indexOf(c) < 0) {
                SealedFiles x = new SealedFiles();
                check.due("write((char) " + code + ")", false, () -> x.write(c));
            }
        }
    }

    private static void fullDraft() {
        check.sentence("Promise 15: false when there are 160");
        SealedFiles x = new SealedFiles();
        for (int number = 1; number <= 160; number++) {
            check.due("write number " + number, true, () -> x.write('-'));
        }
        for (char c : CHARACTERS.toCharArray()) {
            check.due("write number 161", false, () -> x.write(c));
        }
    }

    private static void wrongCharacterInAFullDraft() {
        check.sentence("Promise 15: false when there are 160, or it is none of those that are printed (both)");
        SealedFiles x = withDraft("A".repeat(160));
        for (char c : new char[] {'/', '=', '_', ' ', 0, Character.MAX_VALUE}) {
            check.due("write((char) " + (int) c + ") to 160", false, () -> x.write(c));
        }
    }

    private static void refusedWriteChangesNothing() {
        check.sentence("Promise 15: a write that answers false changes nothing");
        SealedFiles x = withDraft("U_w/E=\n");
        check.due("load()", 2, x::load);
        check.compare("the file", "[83, 1]", Paper.fileOf(x));
        SealedFiles full = withDraft("-".repeat(160) + "A_A");
        check.due("load() of 160", 120, full::load);
        check.due("at(0)", 255, () -> full.at(0));
        check.due("at(119)", 255, () -> full.at(119));
        check.due("the next load()", 0, full::load);
    }

    private static void draftStaysBesideTheRest() {
        check.sentence("Promise 15: the draft stays until load");
        SealedFiles x = new SealedFiles();
        x.key(9);
        Paper.write(x, "Uw");
        x.put(1);
        x.seal(1, 2, 3);
        x.open(0);
        x.alter(0, 1);
        x.cut(3);
        x.clear();
        x.print(0);
        x.write('E');
        check.due("load()", 2, x::load);
        check.compare("the file", "[83, 1]", Paper.fileOf(x));
    }

    private static void everyLengthIsLoaded() {
        check.sentence("Promise 16: The draft is the printed form of the file from now on: how many bytes it has");
        for (int length = 0; length <= 120; length++) {
            byte[] row = Paper.message(length);
            SealedFiles x = withDraft(Paper.printed(row));
            check.due("load() of " + length + " bytes", length, x::load);
            check.due("count(1)", length, () -> x.count(1));
            check.compare("the file of " + length + " bytes", Paper.text(row), Paper.fileOf(x));
        }
    }

    private static void noCharacters() {
        check.sentence("Promise 16: (of no character, too: 0 bytes)");
        SealedFiles x = withFile(1, 2, 3);
        check.due("load() of no character", 0, x::load);
        check.due("count(1)", 0, () -> x.count(1));
        check.due("at(0)", -1, () -> x.at(0));
    }

    private static void emptyThenWhenRight() {
        check.sentence("Promise 16: which is empty then in any case (it was right)");
        SealedFiles x = withDraft("UwE");
        check.due("load()", 2, x::load);
        check.due("load() again", 0, x::load);
        Paper.write(x, "AQ");
        check.due("load() of the next draft", 1, x::load);
        check.due("at(0)", 1, () -> x.at(0));
    }

    private static void emptyThenWhenWrong() {
        check.sentence("Promise 16: which is empty then in any case (it throws)");
        for (String text : new String[] {"U", "UwF", "UR", "UwEAA", "A".repeat(157)}) {
            SealedFiles x = withDraft(text);
            check.refused("load() of " + text, IllegalArgumentException.class, x::load);
            Paper.write(x, "AQ");
            check.due("load() of the next draft", 1, x::load);
            SealedFiles y = withDraft(text);
            check.refused("load() of " + text, IllegalArgumentException.class, y::load);
            check.due("load() of no character", 0, y::load);
        }
    }

    private static void emptyThenHasRoomAgain() {
        check.sentence("Promise 16: which is empty then (and has room for 160 again)");
        SealedFiles x = withDraft("A".repeat(160));
        check.due("load() of 160", 120, x::load);
        for (int number = 1; number <= 160; number++) {
            check.due("write number " + number, true, () -> x.write('-'));
        }
        check.due("write number 161", false, () -> x.write('-'));
        check.due("load() of 160 again", 120, x::load);
        check.due("at(0)", 255, () -> x.at(0));
    }

    private static void inTheSteadOfALongerFile() {
        check.sentence("Promise 16: the file from now on (the old one was longer)");
        SealedFiles x = withFile(1, 2, 3, 4, 5, 6, 7);
        Paper.write(x, "UwE");
        check.due("load()", 2, x::load);
        check.compare("the file", "[83, 1]", Paper.fileOf(x));
        check.due("at(2)", -1, () -> x.at(2));
        check.due("print(3)", -1, () -> x.print(3));
    }

    private static void longestDraft() {
        check.sentence("Promise 16: how many bytes it has (the most)");
        loads("A".repeat(158));
        loads("A".repeat(159));
        loads("-".repeat(160));
    }

    private static void oneCharacterTooMany() {
        check.sentence("Promise 16: IllegalArgumentException when one character too many");
        for (int length = 1; length <= 160; length++) {
            if (length % 4 == 1) {
                throwsAt("A".repeat(length));
            } else {
                loads("A".repeat(length));
            }
        }
        for (char c : CHARACTERS.toCharArray()) {
            throwsAt(String.valueOf(c));
            throwsAt("UwEA" + c);
        }
    }

    private static void filling(String before, int rightOnes) {
        for (int value = 0; value < 64; value++) {
            String text = before + CHARACTERS.charAt(value);
            if (value % rightOnes == 0) {
                loads(text);
            } else {
                throwsAt(text);
            }
        }
    }

    private static void fillingBitsOfTwo() {
        check.sentence("Promise 16: IllegalArgumentException when the bits that fill up are not 0 (four bits)");
        filling("A", 16);
        filling("-", 16);
    }

    private static void fillingBitsOfThree() {
        check.sentence("Promise 16: IllegalArgumentException when the bits that fill up are not 0 (two bits)");
        filling("AA", 4);
        filling("--", 4);
    }

    private static void fillingBitsBehindMore() {
        check.sentence("Promise 16: IllegalArgumentException when the bits that fill up are not 0 (a long draft)");
        filling("-".repeat(5), 16);
        filling("-".repeat(6), 4);
        filling("A".repeat(157), 16);
        filling("A".repeat(158), 4);
    }

    private static void noFillingBitsOfFour() {
        check.sentence("Promise 16: four characters have no bits that fill up");
        filling("AAA", 1);
        filling("---", 1);
        filling("A".repeat(159), 1);
    }

    private static void fileStaysWhenItThrows() {
        check.sentence("Promise 16: (which stays, when it throws)");
        for (String text : new String[] {"U", "UwF", "UR", "UwEAA", "-".repeat(157), "-".repeat(158)}) {
            SealedFiles x = withFile(1, 2, 3);
            Paper.write(x, text);
            check.refused("load() of " + text, IllegalArgumentException.class, x::load);
            check.compare("the file", "[1, 2, 3]", Paper.fileOf(x));
        }
    }

    private static void otherThingsStay() {
        check.sentence("Promise 16: load changes neither the message nor the keys nor pieces()");
        SealedFiles x = new SealedFiles();
        x.key(9);
        Paper.put(x, Paper.message(9));
        x.seal(1, 2, 3);
        x.open(0);
        Paper.write(x, "UwE");
        x.load();
        check.compare("the message", Paper.text(Paper.message(9)), Paper.messageOf(x));
        check.due("count(2)", 1, () -> x.count(2));
        check.due("pieces()", 2, x::pieces);
    }
}
