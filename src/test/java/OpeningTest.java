import java.util.Arrays;

/** OPENING among the terms, also of files that seal does not make. */
public final class OpeningTest extends OpeningCase {
    public static void main(String[] args) {
        shapes();
        entries();
        heads();
        takingOfPieces();
        wrongPieces();
        whatIsTheMessage();
        check.finish();
    }

    private static void shapes() {
        check.each(
            OpeningTest::firstByte,
            OpeningTest::noReceivers,
            OpeningTest::tooManyReceivers,
            OpeningTest::tooShortForTheCount,
            OpeningTest::longEnough,
            OpeningTest::tooShort,
            OpeningTest::longEnoughForTheReceiversThatItTells,
            OpeningTest::shapeBeforeFor);
    }

    private static void entries() {
        check.each(
            OpeningTest::firstOfTwoEntries,
            OpeningTest::secondEntryBehindASpoiledOne,
            OpeningTest::thirdEntry,
            OpeningTest::entryBehindTheCountedOnes,
            OpeningTest::twoKeysOfOneAddress,
            OpeningTest::alteredEntry,
            OpeningTest::entryForAnotherAddress,
            OpeningTest::smallestNumbersInAnEntry,
            OpeningTest::greatestNumbersInAnEntry,
            OpeningTest::fileKeyFromTheEntry);
    }

    private static void heads() {
        check.each(
            OpeningTest::alteredHead,
            OpeningTest::receiversAltered,
            OpeningTest::signAboveThePrime,
            OpeningTest::forBeforeHead,
            OpeningTest::headBeforePieces);
    }

    private static void takingOfPieces() {
        check.each(
            OpeningTest::elevenBytesLeft,
            OpeningTest::twelveBytesLeft,
            OpeningTest::tenBytesLeft,
            OpeningTest::twoBytesLeft,
            OpeningTest::twoBytesLeftBehindAPiece,
            OpeningTest::oneByteLeft,
            OpeningTest::piecesBehindALongerHead);
    }

    private static void wrongPieces() {
        check.each(
            OpeningTest::endOfItAtAWrongPiece,
            OpeningTest::cutOffBetweenPieces,
            OpeningTest::somethingPutBehind,
            OpeningTest::shortPieceOfTheOtherKind,
            OpeningTest::emptyPieceOfTheOtherKind,
            OpeningTest::spoiledByteByByte,
            OpeningTest::spoiledEmptyPiece,
            OpeningTest::cutWithinAPiece,
            OpeningTest::byteBehindAShortPiece,
            OpeningTest::piecesInAnotherOrder,
            OpeningTest::pieceOfAnotherFile);
    }

    private static void whatIsTheMessage() {
        check.each(
            OpeningTest::piecesBeforeAreTheMessage,
            OpeningTest::allPiecesAreTheMessage,
            OpeningTest::firstFortyOfAll,
            OpeningTest::firstFortyOfThePiecesBefore,
            OpeningTest::firstFortyOfACutFile);
    }

    private static byte[] leastFile(int receivers) {
        Paper paper = Paper.start(receivers);
        for (int i = 0; i < receivers; i++) {
            paper.entry(ADDRESS, 100 + i, F);
        }
        return paper.headSign(F).pieces(F, NOTHING).made();
    }

    private static void firstByte() {
        check.sentence("OPENING: SHAPE: (83, ..)");
        for (int mark = 0; mark < 256; mark++) {
            byte[] file = good(10);
            file[0] = (byte) mark;
            if (mark != 83) {
                refused("the first byte " + mark, file, SealedFiles.SHAPE);
            }
        }
        opened("the first byte 83", good(10), 10, 2, part(0, 10));
    }

    private static byte[] ofReceivers(int receivers) {
        byte[] file = Arrays.copyOf(good(10), 120);
        file[1] = (byte) receivers;
        return file;
    }

    private static void noReceivers() {
        check.sentence("OPENING: SHAPE: (.., n, ..), n being 1 .. 3 (0)");
        refused("0 receivers", ofReceivers(0), SealedFiles.SHAPE);
        byte[] shortOne = Paper.start(0).headSign(F).pieces(F, NOTHING).made();
        refused("0 receivers, no entry", shortOne, SealedFiles.SHAPE);
    }

    private static void tooManyReceivers() {
        check.sentence("OPENING: SHAPE: (.., n, ..), n being 1 .. 3 (4 and more)");
        for (int receivers = 4; receivers < 256; receivers++) {
            refused(receivers + " receivers", ofReceivers(receivers), SealedFiles.SHAPE);
        }
        byte[] four = Paper.start(4).entry(ADDRESS, 2, F).entry(ADDRESS, 3, F).entry(ADDRESS, 4, F)
            .entry(ADDRESS, 5, F).headSign(F).pieces(F, part(0, 3)).made();
        refused("4 entries", four, SealedFiles.SHAPE);
    }

    private static void tooShortForTheCount() {
        check.sentence("OPENING: SHAPE: it is of the shape of a file (no byte, one, two)");
        refused("no bytes", NOTHING, SealedFiles.SHAPE);
        refused("one byte", new byte[] {83}, SealedFiles.SHAPE);
        refused("two bytes", new byte[] {83, 1}, SealedFiles.SHAPE);
    }

    private static void longEnough() {
        check.sentence("OPENING: SHAPE: long enough for the head's sign and for a sign behind it (just so)");
        for (int receivers = 1; receivers <= 3; receivers++) {
            byte[] least = leastFile(receivers);
            check.due("the least length", 6 + 8 * receivers, () -> least.length);
            opened("the least file for " + receivers, least, 0, 1, NOTHING);
        }
    }

    private static void tooShort() {
        check.sentence("OPENING: SHAPE: long enough for the head's sign and for a sign behind it (too short)");
        for (int receivers = 1; receivers <= 3; receivers++) {
            byte[] least = leastFile(receivers);
            for (int length = 0; length < least.length; length++) {
                refused("cut to " + length + " for " + receivers, Arrays.copyOf(least, length), SealedFiles.SHAPE);
            }
        }
    }

    private static void longEnoughForTheReceiversThatItTells() {
        check.sentence("OPENING: SHAPE: (.., n, long enough ..), n being another than was sealed for");
        refused("14 bytes and n = 2", altered(leastFile(1), 1, 3), SealedFiles.SHAPE);
        refused("22 bytes and n = 3", altered(leastFile(2), 1, 1), SealedFiles.SHAPE);
        refused("22 bytes and n = 1", altered(leastFile(2), 1, 3), SealedFiles.HEAD);
        refused("30 bytes and n = 2", altered(leastFile(3), 1, 1), SealedFiles.HEAD);
    }

    private static void shapeBeforeFor() {
        check.sentence("OPENING: SHAPE: .. FOR: .. (in this order)");
        int[] receivers = {1, 2, 3};
        for (int n : receivers) {
            byte[] start = {83, (byte) n};
            refused("the least length without an entry", Arrays.copyOf(start, 6 + 8 * n), SealedFiles.FOR);
            refused("a byte less without an entry", Arrays.copyOf(start, 5 + 8 * n), SealedFiles.SHAPE);
        }
    }

    private static Paper twoEntries() {
        return Paper.start(2).entry(ADDRESS, 50, F).entry(ADDRESS, 60, F + 1);
    }

    private static void firstOfTwoEntries() {
        check.sentence("OPENING: FOR: the first entry (two may have one address)");
        byte[] first = twoEntries().headSign(F).pieces(F, part(0, 9)).made();
        opened("the first entry's file key", first, 9, 2, part(0, 9));
        byte[] second = twoEntries().headSign(F + 1).pieces(F + 1, part(0, 9)).made();
        refused("the second entry's file key", second, SealedFiles.HEAD);
    }

    private static void secondEntryBehindASpoiledOne() {
        check.sentence("OPENING: FOR: the first entry whose sign is right (the second one)");
        byte[] file = Paper.start(2).raw(1, 2, 3, 4, 5, 6, 7, 8).entry(ADDRESS, 60, F)
            .headSign(F).pieces(F, part(0, 9)).made();
        opened("the second entry", file, 9, 2, part(0, 9));
        byte[] spoiled = altered(twoEntries().headSign(F + 1).pieces(F + 1, part(0, 9)).made(), 9, 1);
        refused("the second entry, the head altered", spoiled, SealedFiles.HEAD);
    }

    private static void thirdEntry() {
        check.sentence("OPENING: FOR: the first entry (of any receiver)");
        for (int place = 0; place < 3; place++) {
            Paper paper = Paper.start(3);
            for (int i = 0; i < 3; i++) {
                paper.entry(i == place ? ADDRESS : STRANGER, 5 + i, F);
            }
            byte[] file = paper.headSign(F).pieces(F, part(0, 9)).made();
            opened("entry " + place, file, 9, 2, part(0, 9));
        }
    }

    private static void entryBehindTheCountedOnes() {
        check.sentence("OPENING: FOR: No entry is for that key (one behind the n entries does not count)");
        byte[] one = Paper.start(1).entry(STRANGER, 5, F).entry(ADDRESS, 7, F)
            .headSign(F).pieces(F, part(0, 9)).made();
        refused("a second entry of one", one, SealedFiles.FOR);
        byte[] two = Paper.start(2).entry(STRANGER, 5, F).entry(STRANGER, 6, F).entry(ADDRESS, 7, F)
            .headSign(F).pieces(F, part(0, 9)).made();
        refused("a third entry of two", two, SealedFiles.FOR);
    }

    private static void twoKeysOfOneAddress() {
        check.sentence("OPENING: FOR: two may have one address (two keys with one secret)");
        SealedFiles x = new SealedFiles();
        x.key(SECRET);
        x.key(SECRET);
        x.put(200);
        x.seal(3, F, 1);
        check.due("open(0)", 1, () -> x.open(0));
        check.due("open(1)", 1, () -> x.open(1));
        x.seal(2, F, 1);
        check.due("open(0) of what is for 1", 1, () -> x.open(0));
        x.seal(1, F, 1);
        check.due("open(1) of what is for 0", 1, () -> x.open(1));
    }

    private static void alteredEntry() {
        check.sentence("FOR: No entry is for that key (each bit of the entry altered)");
        for (int i = 2; i < 10; i++) {
            for (int bit = 0; bit < 8; bit++) {
                refused("bit " + bit + " of byte " + i, altered(good(9), i, 1 << bit), SealedFiles.FOR);
            }
        }
    }

    private static void entryForAnotherAddress() {
        check.sentence("OPENING: FOR: right with this key and the key's address A");
        byte[] others = Paper.start(3).entry(STRANGER, 5, F).entry(STRANGER, 6, F).entry(STRANGER, 7, F)
            .headSign(F).pieces(F, part(0, 9)).made();
        refused("three entries for another", others, SealedFiles.FOR);
        int number = Paper.power(2, 50);
        byte[] file = Paper.start(1).entryOf(number, Paper.power(ADDRESS, 50), STRANGER, F)
            .headSign(F).pieces(F, part(0, 4)).made();
        refused("the right z with another address", file, SealedFiles.FOR);
        byte[] otherPower = Paper.start(1).entryOf(number, Paper.power(STRANGER, 50), ADDRESS, F)
            .headSign(F).pieces(F, part(0, 4)).made();
        refused("another z with the right address", otherPower, SealedFiles.FOR);
    }

    private static void numberInAnEntry(int number) {
        int z = Paper.power(number, SECRET);
        byte[] file = Paper.start(1).entryOf(number, z, ADDRESS, F).headSign(F).pieces(F, part(0, 4)).made();
        opened("the number " + number + " in the entry", file, 4, 1, part(0, 4));
    }

    private static void smallestNumbersInAnEntry() {
        check.sentence("OPENING: FOR: the number in the entry's first two bytes, to the power s (0, 1, ..)");
        for (int number : new int[] {0, 1, 2, 3, 255, 256}) {
            numberInAnEntry(number);
        }
    }

    /** The document takes any number there; only its power is modulo the prime. */
    private static void greatestNumbersInAnEntry() {
        check.sentence("OPENING: FOR: the number in the entry's first two bytes, to the power s (32749 and more)");
        for (int number : new int[] {32747, 32748, 32749, 32750, 46340, 46341, 65497, 65498, 65499, 65535}) {
            numberInAnEntry(number);
        }
    }

    private static void fileKeyFromTheEntry() {
        check.sentence("OPENING: FOR: f is from there");
        for (int f : new int[] {0, 1, -1, 255, 256, 65535, 65536, Integer.MAX_VALUE, Integer.MIN_VALUE}) {
            byte[] file = head(f).pieces(f, part(0, 9)).made();
            opened("the file key " + f, file, 9, 2, part(0, 9));
        }
    }

    private static void alteredHead() {
        check.sentence("HEAD: The head's sign is not right");
        byte[] file = Paper.start(2).entry(ADDRESS, 50, F).entry(STRANGER, 60, F)
            .headSign(F).pieces(F, part(0, 9)).made();
        opened("a right head", file, 9, 2, part(0, 9));
        for (int i = 10; i < 20; i++) {
            for (int bit = 0; bit < 8; bit++) {
                refused("bit " + bit + " of byte " + i, altered(file, i, 1 << bit), SealedFiles.HEAD);
            }
        }
    }

    private static void receiversAltered() {
        check.sentence("HEAD: The head's sign is not right (another number of receivers)");
        byte[] file = Paper.start(2).entry(ADDRESS, 50, F).entry(STRANGER, 60, F)
            .headSign(F).pieces(F, part(0, 9)).made();
        refused("one fewer", altered(file, 1, 2 ^ 1), SealedFiles.HEAD);
        refused("one more", altered(Arrays.copyOf(file, 40), 1, 2 ^ 3), SealedFiles.HEAD);
    }

    private static int signOfHead(int f) {
        byte[] head = head(f).made();
        return (head[10] & 255) << 8 | head[11] & 255;
    }

    private static void signAboveThePrime() {
        check.sentence("HEAD: a sign is below 65521 (the same with 65521 more is not right)");
        int f = 0;
        while (signOfHead(f) >= 15) {
            f++;
        }
        byte[] file = head(f).pieces(f, part(0, 3)).made();
        opened("a small sign of a head", file, 3, 1, part(0, 3));
        int above = signOfHead(f) + 65521;
        file[10] = (byte) (above >>> 8);
        file[11] = (byte) above;
        refused("a sign above the prime", file, SealedFiles.HEAD);
    }

    private static void forBeforeHead() {
        check.sentence("OPENING: FOR: .. HEAD: .. (in this order)");
        byte[] file = altered(altered(good(9), 9, 1), 11, 1);
        refused("neither is right", file, SealedFiles.FOR);
    }

    private static void headBeforePieces() {
        check.sentence("OPENING: HEAD: .. Then the pieces (in this order)");
        byte[] file = altered(altered(good(9), 11, 1), 13, 1);
        refused("neither is right", file, SealedFiles.HEAD);
    }

    private static void elevenBytesLeft() {
        check.sentence("OPENING: as long as more than 10 bytes are left, 8 and a sign, which is no last one (11)");
        byte[] right = head(F).piece(F, 0, 5, part(0, 8)).raw(77).made();
        opened("11 bytes, signed as no last one", right, SealedFiles.SPOILED, 1, part(0, 8));
        byte[] wrong = head(F).piece(F, 0, 6, part(0, 9)).made();
        opened("11 bytes, signed as a last one", wrong, SealedFiles.SPOILED, 0, NOTHING);
    }

    private static void twelveBytesLeft() {
        check.sentence("OPENING: as long as more than 10 bytes are left, 8 and a sign, which is no last one (12)");
        byte[] right = head(F).piece(F, 0, 5, part(0, 8)).piece(F, 1, 6, NOTHING).made();
        opened("8 and a sign, and a sign", right, 8, 2, part(0, 8));
    }

    private static void tenBytesLeft() {
        check.sentence("OPENING: at the end what is left, 2 .. 10 bytes (also 8 and a sign), is a last one");
        for (int length = 1; length <= 8; length++) {
            byte[] alone = head(F).piece(F, 0, 6, part(0, length)).made();
            opened(length + " and a sign", alone, length, 1, part(0, length));
            byte[] second = head(F).piece(F, 0, 5, part(0, 8)).piece(F, 1, 6, part(8, 8 + length)).made();
            opened(length + " and a sign behind 8", second, 8 + length, 2, part(0, 8 + length));
        }
    }

    private static void twoBytesLeft() {
        check.sentence("OPENING: at the end what is left, 2 .. 10 bytes, is a last one (2)");
        byte[] file = head(F).piece(F, 0, 6, NOTHING).made();
        opened("a sign alone", file, 0, 1, NOTHING);
    }

    private static void twoBytesLeftBehindAPiece() {
        check.sentence("OPENING: at the end what is left, 2 .. 10 bytes, is a last one (2, behind pieces)");
        for (int k = 1; k <= 5; k++) {
            Paper paper = head(F);
            for (int i = 0; i < k; i++) {
                paper.piece(F, i, 5, part(8 * i, 8 * i + 8));
            }
            byte[] file = paper.piece(F, k, 6, NOTHING).made();
            opened("a sign behind " + k + " pieces", file, 8 * k, k + 1, part(0, 8 * k));
        }
    }

    private static void oneByteLeft() {
        check.sentence("OPENING: (one byte that is left is SPOILED)");
        Paper paper = head(F);
        for (int k = 0; k < 5; k++) {
            paper.piece(F, k, 5, part(8 * k, 8 * k + 8));
            for (int b : new int[] {0, 1, 255}) {
                byte[] file = Arrays.copyOf(paper.made(), HEAD_END + 10 * k + 11);
                file[file.length - 1] = (byte) b;
                opened("one byte behind piece " + k, file, SealedFiles.SPOILED, k + 1, part(0, 8 * k + 8));
            }
        }
    }

    private static void piecesBehindALongerHead() {
        check.sentence("OPENING: Then the pieces are taken from the front (of a file for two, for three)");
        for (int receivers = 2; receivers <= 3; receivers++) {
            Paper paper = Paper.start(receivers).entry(ADDRESS, 100, F);
            for (int i = 1; i < receivers; i++) {
                paper.entry(STRANGER, 100 + i, F);
            }
            byte[] file = paper.headSign(F).pieces(F, part(0, 20)).made();
            int start = 4 + 8 * receivers;
            String what = "for " + receivers + ", ";
            opened(what + "whole", file, 20, 3, part(0, 20));
            opened(what + "cut to one piece", Arrays.copyOf(file, start + 10), SealedFiles.CUT, 0, NOTHING);
            opened(what + "cut to two pieces", Arrays.copyOf(file, start + 20), SealedFiles.CUT, 1, part(0, 8));
            opened(what + "one byte left", Arrays.copyOf(file, start + 21), SealedFiles.SPOILED, 2, part(0, 16));
            opened(what + "two bytes left", Arrays.copyOf(file, start + 22), SealedFiles.SPOILED, 2, part(0, 16));
            opened(what + "the first altered", altered(file, start, 1), SealedFiles.SPOILED, 0, NOTHING);
        }
    }

    private static void endOfItAtAWrongPiece() {
        check.sentence("OPENING: A piece whose sign is not right ends it");
        byte[] file = altered(good(40), HEAD_END + 10, 1);
        opened("the second of five spoiled", file, SealedFiles.SPOILED, 1, part(0, 8));
        byte[] twice = altered(file, HEAD_END + 20, 1);
        opened("the second and third of five spoiled", twice, SealedFiles.SPOILED, 1, part(0, 8));
        byte[] cutBehind = Arrays.copyOf(file, HEAD_END + 40);
        opened("the second spoiled, the fifth cut off", cutBehind, SealedFiles.SPOILED, 1, part(0, 8));
    }

    private static void cutOffBetweenPieces() {
        check.sentence("OPENING: CUT OFF, if its sign would be right for the other kind (not last at the end)");
        for (int length : new int[] {9, 16, 17, 24, 33, 40}) {
            byte[] file = good(length);
            for (int pieces = 1; HEAD_END + 10 * pieces < file.length; pieces++) {
                byte[] cut = Arrays.copyOf(file, HEAD_END + 10 * pieces);
                String what = length + " bytes cut to " + pieces + " pieces";
                opened(what, cut, SealedFiles.CUT, pieces - 1, part(0, 8 * pieces - 8));
            }
        }
    }

    private static void somethingPutBehind() {
        check.sentence("OPENING: CUT OFF, if its sign would be right for the other kind (last before the end)");
        for (int length : new int[] {8, 16, 24, 32, 40}) {
            byte[] file = good(length);
            int right = length / 8 - 1;
            for (int more = 1; more <= 21; more++) {
                byte[] longer = Arrays.copyOf(file, file.length + more);
                opened(more + " bytes behind " + length, longer, SealedFiles.CUT, right, part(0, 8 * right));
            }
        }
    }

    private static void shortPieceOfTheOtherKind() {
        check.sentence("OPENING: CUT OFF, if its sign would be right for the other kind (1 .. 8 bytes)");
        for (int length = 1; length <= 8; length++) {
            byte[] alone = head(F).piece(F, 0, 5, part(0, length)).made();
            opened(length + " bytes, not signed as the last", alone, SealedFiles.CUT, 0, NOTHING);
            byte[] second = head(F).piece(F, 0, 5, part(0, 8)).piece(F, 1, 5, part(8, 8 + length)).made();
            opened(length + " bytes behind 8, not signed as the last", second, SealedFiles.CUT, 1, part(0, 8));
        }
    }

    private static void emptyPieceOfTheOtherKind() {
        check.sentence("OPENING: CUT OFF, if its sign would be right for the other kind (no bytes)");
        byte[] alone = head(F).piece(F, 0, 5, NOTHING).made();
        opened("no bytes, not signed as the last", alone, SealedFiles.CUT, 0, NOTHING);
        byte[] second = head(F).piece(F, 0, 5, part(0, 8)).piece(F, 1, 5, NOTHING).made();
        opened("no bytes behind 8, not signed as the last", second, SealedFiles.CUT, 1, part(0, 8));
    }

    private static void spoiledByteByByte() {
        check.sentence("OPENING: otherwise SPOILED (each byte altered)");
        byte[] file = good(20);
        for (int i = HEAD_END; i < file.length; i++) {
            int right = (i - HEAD_END) / 10;
            byte[] spoiled = altered(file, i, 1 << i % 8);
            opened("byte " + i + " altered", spoiled, SealedFiles.SPOILED, right, part(0, 8 * right));
        }
    }

    private static void spoiledEmptyPiece() {
        check.sentence("OPENING: otherwise SPOILED (the sign of an empty message)");
        opened("its lower byte", altered(good(0), 13, 1), SealedFiles.SPOILED, 0, NOTHING);
        opened("its higher byte", altered(good(0), 12, 1), SealedFiles.SPOILED, 0, NOTHING);
    }

    private static void cutWithinAPiece() {
        check.sentence("OPENING: otherwise SPOILED (cut within a piece)");
        for (int length : new int[] {7, 8, 9, 16, 17, 39, 40}) {
            byte[] file = good(length);
            for (int n = HEAD_END + 2; n < file.length; n++) {
                int right = (n - HEAD_END) / 10;
                if ((n - HEAD_END) % 10 != 0) {
                    byte[] cut = Arrays.copyOf(file, n);
                    opened(length + " bytes cut at " + n, cut, SealedFiles.SPOILED, right, part(0, 8 * right));
                }
            }
        }
    }

    private static void byteBehindAShortPiece() {
        check.sentence("OPENING: otherwise SPOILED (something behind a last piece of fewer than 8)");
        for (int length = 0; length < 8; length++) {
            byte[] file = Arrays.copyOf(good(length), HEAD_END + length + 3);
            opened("a byte behind " + length, file, SealedFiles.SPOILED, 0, NOTHING);
        }
    }

    private static void piecesInAnotherOrder() {
        check.sentence("PIECE k (from 0): at another place it is SPOILED");
        byte[] swapped = head(F).piece(F, 1, 5, part(8, 16)).piece(F, 0, 5, part(0, 8)).piece(F, 2, 6, part(16, 18))
            .made();
        opened("swapped pieces", swapped, SealedFiles.SPOILED, 0, NOTHING);
        byte[] leftOut = head(F).piece(F, 0, 5, part(0, 8)).piece(F, 2, 6, part(16, 18)).made();
        opened("a piece left out", leftOut, SealedFiles.SPOILED, 1, part(0, 8));
        byte[] twice = head(F).piece(F, 0, 5, part(0, 8)).piece(F, 0, 5, part(0, 8)).piece(F, 1, 6, part(8, 9)).made();
        opened("a piece twice", twice, SealedFiles.SPOILED, 1, part(0, 8));
    }

    private static void pieceOfAnotherFile() {
        check.sentence("PIECE: With the file's KEY f (a piece of another file is SPOILED)");
        byte[] foreign = head(F).piece(F, 0, 5, part(0, 8)).piece(F + 1, 1, 6, part(8, 12)).made();
        opened("a piece with another file key", foreign, SealedFiles.SPOILED, 1, part(0, 8));
    }

    private static void piecesBeforeAreTheMessage() {
        check.sentence("OPENING: The bytes of the pieces before are the message then");
        byte[] file = good(40);
        for (int piece = 0; piece < 5; piece++) {
            byte[] spoiled = altered(file, HEAD_END + 10 * piece + 3, 128);
            opened("piece " + piece + " spoiled", spoiled, SealedFiles.SPOILED, piece, part(0, 8 * piece));
        }
    }

    private static void allPiecesAreTheMessage() {
        check.sentence("OPENING: when all are right, of all");
        for (int length = 0; length <= 40; length++) {
            int pieces = Math.max(1, (length + 7) / 8);
            opened("a message of " + length, good(length), length, pieces, part(0, length));
        }
    }

    private static void firstFortyOfAll() {
        check.sentence("OPENING: (the first 40 of them, in both cases), when all are right");
        for (int length = 38; length <= 86; length++) {
            int kept = Math.min(40, length);
            opened("a message of " + length, good(length), kept, (length + 7) / 8, part(0, kept));
        }
        check.due("the length of the longest file", 120, () -> good(86).length);
    }

    private static void firstFortyOfThePiecesBefore() {
        check.sentence("OPENING: (the first 40 of them, in both cases), when a piece is not right");
        for (int piece = 4; piece <= 10; piece++) {
            byte[] file = altered(good(86), HEAD_END + 10 * piece, 64);
            int kept = Math.min(40, 8 * piece);
            opened("piece " + piece + " of 86 bytes", file, SealedFiles.SPOILED, piece, part(0, kept));
        }
    }

    private static void firstFortyOfACutFile() {
        check.sentence("OPENING: (the first 40 of them, in both cases), when it was cut off");
        for (int pieces = 5; pieces <= 10; pieces++) {
            byte[] file = Arrays.copyOf(good(86), HEAD_END + 10 * pieces);
            int kept = Math.min(40, 8 * pieces - 8);
            opened("86 bytes cut to " + pieces, file, SealedFiles.CUT, pieces - 1, part(0, kept));
        }
    }
}
