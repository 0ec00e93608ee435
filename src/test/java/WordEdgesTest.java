/** The boundary cases of promises 1 and 6 to 10, a method for each sentence of the document. */
public final class WordEdgesTest {
    private static final Expect EXPECT = new Expect();
    private static final int[] FAR = {-2, -255, -256, 256, 257, 65536, Integer.MIN_VALUE,
        Integer.MAX_VALUE};

    public static void main(String[] args) {
        newObject();
        newObjectsStandAlone();
        lowestBytesFirst();
        sizesOfPuts();
        sizesBeforeTheRoom();
        upTo255Bytes();
        moreThan255Bytes();
        wipesOfEachLength();
        wipedWordIsEmpty();
        wipeLeavesWhatChanged();
        bytesOfTheWord();
        noBytesBeyondTheWord();
        spoilsOfEachByte();
        spoilsByNoElement();
        spoilsOfNoByte();
        argumentsBeforeTheByte();
        valuesOfAnEmptyWord();
        valuesOfShortestAndLongestWords();
        valuesAtNoElement();
        EXPECT.end();
    }

    private static void newObject() {
        EXPECT.sentence("An empty word; nothing was put right.");
        FieldCodes x = new FieldCodes();
        EXPECT.due("at(0)", () -> x.at(0), FieldCodes.NONE);
        EXPECT.due("changed(0)", () -> x.changed(0), FieldCodes.NONE);
        EXPECT.due("value(1)", () -> x.value(1), 0);
        EXPECT.due("spoil(0, 0)", () -> x.spoil(0, 0), Expect.OUT_OF_BOUNDS);
        EXPECT.due("isCode(2)", () -> x.isCode(2) ? 1 : 0, 0);
        EXPECT.due("check(2)", () -> x.check(2), Expect.ILLEGAL_STATE);
        EXPECT.due("correct(2, 1)", () -> x.correct(2, 1), Expect.ILLEGAL_STATE);
        EXPECT.due("wipe()", x::wipe, 0);
        EXPECT.due("put(8, 0)", () -> x.put(8, 0), 8);
        EXPECT.due("changed(0) with a word", () -> x.changed(0), FieldCodes.NONE);
    }

    private static void newObjectsStandAlone() {
        EXPECT.sentence("An empty word; nothing was put right. (beside another object)");
        FieldCodes x = new FieldCodes();
        x.put(3, 0x020301);
        x.spoil(1, 9);
        EXPECT.due("correct(2, 1)", () -> x.correct(2, 1), 1);
        FieldCodes y = new FieldCodes();
        EXPECT.due("at(0) of another", () -> y.at(0), FieldCodes.NONE);
        EXPECT.due("changed(0) of another", () -> y.changed(0), FieldCodes.NONE);
        EXPECT.due("wipe() of another", y::wipe, 0);
        EXPECT.due("put of another", () -> y.put(1, 77), 1);
        EXPECT.due("at(0) of the first", () -> x.at(0), 1);
        EXPECT.due("changed(0) of the first", () -> x.changed(0), 1);
        EXPECT.due("wipe() of the first", x::wipe, 3);
    }

    private static void lowestBytesFirst() {
        EXPECT.sentence("The n lowest bytes of a long, the lowest first, come behind the word.");
        EXPECT.word(putOf(8, Long.MIN_VALUE), 0, 0, 0, 0, 0, 0, 0, 128);
        EXPECT.word(putOf(8, Long.MAX_VALUE), 255, 255, 255, 255, 255, 255, 255, 127);
        EXPECT.word(putOf(8, -1L), 255, 255, 255, 255, 255, 255, 255, 255);
        EXPECT.word(putOf(8, 0L), 0, 0, 0, 0, 0, 0, 0, 0);
        EXPECT.word(putOf(8, 0x0807060504030201L), 1, 2, 3, 4, 5, 6, 7, 8);
        EXPECT.word(putOf(1, 256L), 0);
        EXPECT.word(putOf(1, 255L), 255);
        EXPECT.word(putOf(1, -1L), 255);
        EXPECT.word(putOf(1, -256L), 0);
        EXPECT.word(putOf(4, 0xFF_80000000L), 0, 0, 0, 128);
        EXPECT.word(putOf(5, 0xFF_80000000L), 0, 0, 0, 128, 255);
        EXPECT.word(putOf(7, 0x8007060504030201L), 1, 2, 3, 4, 5, 6, 7);
        FieldCodes x = putOf(2, 0x0201L);
        EXPECT.due("a put behind", () -> x.put(2, 0x0403L), 4);
        EXPECT.word(x, 1, 2, 3, 4);
    }

    private static void sizesOfPuts() {
        EXPECT.sentence("IllegalArgumentException: n is not 1 .. 8.");
        FieldCodes x = new FieldCodes();
        for (int n : new int[] {0, -1, -8, 9, 10, Integer.MIN_VALUE, Integer.MAX_VALUE}) {
            EXPECT.due("put(" + n + ", -1)", () -> x.put(n, -1L), Expect.ILLEGAL_ARGUMENT);
        }
        EXPECT.due("put(1, 5) after them", () -> x.put(1, 5L), 1);
        EXPECT.due("put(8, 6) after them", () -> x.put(8, 6L), 9);
        EXPECT.word(x, 5, 6, 0, 0, 0, 0, 0, 0, 0);
    }

    private static void sizesBeforeTheRoom() {
        EXPECT.sentence("n is not 1 .. 8 (where there is no room either)");
        for (int length : new int[] {247, 254, 255}) {
            FieldCodes x = zeros(length);
            for (int n : new int[] {0, -1, 9, Integer.MIN_VALUE, Integer.MAX_VALUE}) {
                EXPECT.due("put(" + n + ", 1) on " + length, () -> x.put(n, 1L),
                    Expect.ILLEGAL_ARGUMENT);
            }
            EXPECT.due("wipe()", x::wipe, length);
        }
    }

    private static void upTo255Bytes() {
        EXPECT.sentence("Answers how many bytes it has then (up to 255)");
        for (int n = 1; n <= 8; n++) {
            int size = n;
            FieldCodes x = zeros(255 - n);
            EXPECT.due("put(" + n + ", -1) up to 255", () -> x.put(size, -1L), 255);
            EXPECT.due("at(254)", () -> x.at(254), 255);
            EXPECT.due("the first new byte", () -> x.at(255 - size), 255);
            EXPECT.due("the last old byte", () -> x.at(254 - size), 0);
        }
        FieldCodes x = new FieldCodes();
        for (int k = 1; k <= 255; k++) {
            EXPECT.due("put no. " + k + " of one byte", () -> x.put(1, 3L), k);
        }
    }

    private static void moreThan255Bytes() {
        EXPECT.sentence("NONE, adding none, when there would be more than 255");
        for (int n = 1; n <= 8; n++) {
            for (int length = 256 - n; length <= 255; length++) {
                int size = n;
                int end = length;
                FieldCodes x = zeros(length);
                String told = "put(" + n + ", -1) on " + length;
                EXPECT.due(told, () -> x.put(size, -1L), FieldCodes.NONE);
                EXPECT.due("at(" + end + ") after " + told, () -> x.at(end), FieldCodes.NONE);
                EXPECT.due("last byte after " + told, () -> x.at(end - 1), 0);
                EXPECT.due("value(1) after " + told, () -> x.value(1), 0);
                int room = 255 - length;
                if (room > 0) {
                    EXPECT.due("what has room after " + told, () -> x.put(room, 0L), 255);
                }
                EXPECT.due("wipe() after " + told, x::wipe, 255);
            }
        }
    }

    private static void wipesOfEachLength() {
        EXPECT.sentence("Answers how many bytes it had.");
        for (int length = 0; length <= 255; length++) {
            FieldCodes x = zeros(length);
            EXPECT.due("wipe() of " + length, x::wipe, length);
            EXPECT.due("wipe() of none", x::wipe, 0);
        }
    }

    private static void wipedWordIsEmpty() {
        EXPECT.sentence("The word is empty then");
        for (int length : new int[] {0, 1, 3, 254, 255}) {
            FieldCodes x = new FieldCodes();
            Words.put(x, Words.random(new Numbers(length), length));
            x.wipe();
            EXPECT.due("at(0)", () -> x.at(0), FieldCodes.NONE);
            EXPECT.due("at(" + (length - 1) + ")", () -> x.at(length - 1), FieldCodes.NONE);
            EXPECT.due("value(1)", () -> x.value(1), 0);
            EXPECT.due("value(0)", () -> x.value(0), 0);
            EXPECT.due("isCode(2)", () -> x.isCode(2) ? 1 : 0, 0);
            EXPECT.due("spoil(0, 1)", () -> x.spoil(0, 1), Expect.OUT_OF_BOUNDS);
            EXPECT.due("check(2)", () -> x.check(2), Expect.ILLEGAL_STATE);
            EXPECT.due("correct(2, 0)", () -> x.correct(2, 0), Expect.ILLEGAL_STATE);
            EXPECT.due("put(2, 0x0201)", () -> x.put(2, 0x0201L), 2);
            EXPECT.word(x, 1, 2);
            EXPECT.due("value(0) of the new word", () -> x.value(0), 2);
            EXPECT.due("value(1) of the new word", () -> x.value(1), 3);
        }
    }

    private static void wipeLeavesWhatChanged() {
        EXPECT.sentence("(what changed() tells stays)");
        FieldCodes x = zeros(20);
        x.spoil(19, 1);
        x.spoil(4, 2);
        EXPECT.due("correct(4, 2)", () -> x.correct(4, 2), 2);
        EXPECT.due("wipe()", x::wipe, 20);
        for (int round = 0; round < 2; round++) {
            EXPECT.due("changed(0)", () -> x.changed(0), 4);
            EXPECT.due("changed(1)", () -> x.changed(1), 19);
            EXPECT.due("changed(2)", () -> x.changed(2), FieldCodes.NONE);
            EXPECT.due("wipe() of an empty word", x::wipe, 0);
        }
    }

    private static void bytesOfTheWord() {
        EXPECT.sentence("Byte i of the word");
        FieldCodes x = putOf(4, 0x80FF0001L);
        EXPECT.word(x, 1, 0, 255, 128);
        FieldCodes full = new FieldCodes();
        int[] word = Words.random(new Numbers(8), 255);
        Words.put(full, word);
        EXPECT.word(full, word);
    }

    private static void noBytesBeyondTheWord() {
        EXPECT.sentence("Byte i of the word; NONE when there is none.");
        for (int length : new int[] {0, 1, 8, 254, 255}) {
            FieldCodes x = new FieldCodes();
            Words.put(x, Words.random(new Numbers(length), length));
            EXPECT.due("at(-1) of " + length, () -> x.at(-1), FieldCodes.NONE);
            EXPECT.due("at(" + length + ") of " + length, () -> x.at(length), FieldCodes.NONE);
            EXPECT.due("at(255) of " + length, () -> x.at(255), FieldCodes.NONE);
            for (int i : FAR) {
                EXPECT.due("at(" + i + ") of " + length, () -> x.at(i), FieldCodes.NONE);
            }
            EXPECT.due("wipe()", x::wipe, length);
        }
    }

    private static void spoilsOfEachByte() {
        EXPECT.sentence("Byte i of the word is summed up with v: what it is then.");
        for (int length : new int[] {1, 2, 255}) {
            FieldCodes x = zeros(length);
            EXPECT.due("spoil(0, 0)", () -> x.spoil(0, 0), 0);
            EXPECT.due("spoil(0, 255)", () -> x.spoil(0, 255), 255);
            EXPECT.due("at(0)", () -> x.at(0), 255);
            EXPECT.due("spoil(0, 0) again", () -> x.spoil(0, 0), 255);
            EXPECT.due("spoil(0, 255) again", () -> x.spoil(0, 255), 0);
            EXPECT.due("spoil of the last byte", () -> x.spoil(length - 1, 129), 129);
            EXPECT.due("spoil of the last byte again", () -> x.spoil(length - 1, 3), 130);
            EXPECT.due("the last byte", () -> x.at(length - 1), 130);
            EXPECT.due("wipe()", x::wipe, length);
        }
        FieldCodes x = putOf(3, 0x070707L);
        x.spoil(1, 1);
        EXPECT.word(x, 7, 6, 7);
    }

    private static void spoilsByNoElement() {
        EXPECT.sentence("IllegalArgumentException: v is no element.");
        FieldCodes x = putOf(2, 0x0A09L);
        for (int v : new int[] {-1, -255, -256, 256, 257, Integer.MIN_VALUE, Integer.MAX_VALUE}) {
            EXPECT.due("spoil(0, " + v + ")", () -> x.spoil(0, v), Expect.ILLEGAL_ARGUMENT);
            EXPECT.due("spoil(1, " + v + ")", () -> x.spoil(1, v), Expect.ILLEGAL_ARGUMENT);
        }
        EXPECT.word(x, 9, 10);
    }

    private static void spoilsOfNoByte() {
        EXPECT.sentence("IndexOutOfBoundsException: there is no such byte.");
        for (int length : new int[] {0, 1, 7, 254, 255}) {
            FieldCodes x = zeros(length);
            for (int v : new int[] {0, 1, 255}) {
                spoilRefused(x, -1, v);
                spoilRefused(x, length, v);
                spoilRefused(x, 255, v);
                for (int i : FAR) {
                    spoilRefused(x, i, v);
                }
            }
            EXPECT.due("value(1) of " + length, () -> x.value(1), 0);
            EXPECT.due("wipe() of " + length, x::wipe, length);
        }
    }

    private static void spoilRefused(FieldCodes x, int i, int v) {
        EXPECT.due("spoil(" + i + ", " + v + ")", () -> x.spoil(i, v), Expect.OUT_OF_BOUNDS);
    }

    private static void argumentsBeforeTheByte() {
        EXPECT.sentence("the one named first when several would do (spoil)");
        for (int length : new int[] {0, 3, 255}) {
            FieldCodes x = zeros(length);
            for (int v : new int[] {-1, 256, Integer.MIN_VALUE, Integer.MAX_VALUE}) {
                for (int i : new int[] {-1, length, Integer.MIN_VALUE, Integer.MAX_VALUE}) {
                    EXPECT.due("spoil(" + i + ", " + v + ")", () -> x.spoil(i, v),
                        Expect.ILLEGAL_ARGUMENT);
                }
            }
        }
    }

    private static void valuesOfAnEmptyWord() {
        EXPECT.sentence("The value of the word at an element; 0 for an empty word.");
        FieldCodes x = new FieldCodes();
        FieldCodes wiped = putOf(1, 200L);
        wiped.wipe();
        for (int a = 0; a < 256; a++) {
            int element = a;
            EXPECT.due("value(" + a + ") of a new object", () -> x.value(element), 0);
            EXPECT.due("value(" + a + ") of a wiped word", () -> wiped.value(element), 0);
        }
    }

    /** The sum of all 255 powers of an element but 1 is 0, as it comes round to itself. */
    private static void valuesOfShortestAndLongestWords() {
        EXPECT.sentence("the first is the coefficient of the highest power");
        FieldCodes one = putOf(1, 200L);
        FieldCodes ones = new FieldCodes();
        for (int k = 0; k < 31; k++) {
            ones.put(8, 0x0101010101010101L);
        }
        ones.put(7, 0x0101010101010101L);
        FieldCodes highest = putOf(1, 3L);
        Words.put(highest, new int[254]);
        for (int a = 0; a < 256; a++) {
            int element = a;
            EXPECT.due("value(" + a + ") of one byte", () -> one.value(element), 200);
            EXPECT.due("value(" + a + ") of 255 ones", () -> ones.value(element), a < 2 ? 1 : 0);
            int due = a == 0 ? 0 : Reference.quotient(3, a);
            EXPECT.due("value(" + a + ") of 3 x^254", () -> highest.value(element), due);
        }
        FieldCodes two = putOf(2, 0x0503L);
        EXPECT.due("value(0) of 3 x + 5", () -> two.value(0), 5);
        EXPECT.due("value(1) of 3 x + 5", () -> two.value(1), 6);
        EXPECT.due("value(2) of 3 x + 5", () -> two.value(2), 3);
    }

    private static void valuesAtNoElement() {
        EXPECT.sentence("what is to be an element is not 0 .. 255 (value)");
        for (int length : new int[] {0, 1, 255}) {
            FieldCodes x = zeros(length);
            for (int a : new int[] {-1, -255, 256, 257, Integer.MIN_VALUE, Integer.MAX_VALUE}) {
                EXPECT.due("value(" + a + ")", () -> x.value(a), Expect.ILLEGAL_ARGUMENT);
            }
            EXPECT.due("value(0)", () -> x.value(0), 0);
            EXPECT.due("value(255)", () -> x.value(255), 0);
        }
    }

    private static FieldCodes putOf(int n, long bytes) {
        FieldCodes x = new FieldCodes();
        EXPECT.due("put(" + n + ", " + bytes + ")", () -> x.put(n, bytes), n);
        return x;
    }

    private static FieldCodes zeros(int length) {
        FieldCodes x = new FieldCodes();
        Words.put(x, new int[length]);
        return x;
    }
}
