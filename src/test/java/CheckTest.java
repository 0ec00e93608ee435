/** Promises 11 and 12: check, isCode. */
public final class CheckTest {
    private static final Expect EXPECT = new Expect();
    private static final int[] NO_COUNTS = {1, 0, -1, -2, 69, 70, 255, 256,
        Integer.MIN_VALUE, Integer.MAX_VALUE};

    public static void main(String[] args) {
        everyCount();
        knownWord();
        longestWords();
        codewordsAgain();
        tooShort();
        oneWrongByte();
        oneWrongValue();
        wrongCounts();
        EXPECT.end();
    }

    private static void everyCount() {
        Numbers numbers = new Numbers(11);
        for (int e = 2; e <= 68; e++) {
            for (int length : new int[] {1, 2, numbers.between(3, 254 - e), 255 - e}) {
                FieldCodes x = new FieldCodes();
                int[] word = Words.random(numbers, length);
                Words.put(x, word);
                int count = e;
                String told = e + " checks behind " + length;
                EXPECT.due("check, " + told, () -> x.check(count), length + e);
                EXPECT.due("isCode, " + told, () -> x.isCode(count) ? 1 : 0, 1);
                int[] code = Words.bytes(x, length + e);
                EXPECT.holds("codeword, " + told, Reference.isCode(code, e));
                for (int i = 0; i < length; i++) {
                    EXPECT.holds("byte " + i + " stays, " + told, code[i] == word[i]);
                }
                EXPECT.due("end, " + told, () -> x.at(length + count), FieldCodes.NONE);
            }
        }
    }

    /** The word of a printed code that has HELLO WORLD in it, with its ten well known check bytes. */
    private static void knownWord() {
        int[] word = {32, 91, 11, 120, 209, 114, 220, 77, 67, 64, 236, 17, 236, 17, 236, 17};
        int[] checks = {196, 35, 39, 119, 235, 215, 231, 226, 93, 23};
        FieldCodes x = new FieldCodes();
        Words.put(x, word);
        EXPECT.due("check(10)", () -> x.check(10), 26);
        for (int j = 0; j < checks.length; j++) {
            int place = 16 + j;
            EXPECT.due("check byte " + j, () -> x.at(place), checks[j]);
        }
        int[] code = Words.bytes(x, 26);
        for (int e = 2; e <= 68; e++) {
            int count = e;
            EXPECT.due("isCode(" + e + ")", () -> x.isCode(count) ? 1 : 0,
                Reference.isCode(code, e) ? 1 : 0);
        }
    }

    private static void longestWords() {
        for (int e : new int[] {2, 3, 67, 68}) {
            FieldCodes x = new FieldCodes();
            int[] word = Words.random(new Numbers(e), 256 - e);
            Words.put(x, word);
            EXPECT.due("check(" + e + ") past 255", () -> x.check(e), Expect.ILLEGAL_STATE);
            EXPECT.due("at the end", () -> x.at(256 - e), FieldCodes.NONE);
            EXPECT.due("last byte", () -> x.at(255 - e), word[255 - e]);
            EXPECT.due("wipe()", x::wipe, 256 - e);
        }
        FieldCodes full = new FieldCodes();
        Words.put(full, Words.random(new Numbers(3), 255));
        EXPECT.due("check(2) on 255", () -> full.check(2), Expect.ILLEGAL_STATE);
        EXPECT.due("check(68) on 255", () -> full.check(68), Expect.ILLEGAL_STATE);
    }

    private static void codewordsAgain() {
        FieldCodes x = new FieldCodes();
        Words.put(x, new int[] {9, 8, 7});
        EXPECT.due("check(4)", () -> x.check(4), 7);
        EXPECT.due("check(6) behind it", () -> x.check(6), 13);
        EXPECT.due("isCode(6)", () -> x.isCode(6) ? 1 : 0, 1);
        EXPECT.due("isCode(5)", () -> x.isCode(5) ? 1 : 0, 1);
        EXPECT.holds("codeword", Reference.isCode(Words.bytes(x, 13), 6));
        EXPECT.due("check(6) again", () -> x.check(6), 19);
        EXPECT.due("isCode(6) again", () -> x.isCode(6) ? 1 : 0, 1);
        EXPECT.due("check(3)", () -> x.check(3), 22);
        EXPECT.holds("codeword at the end", Reference.isCode(Words.bytes(x, 22), 3));
    }

    private static void tooShort() {
        for (int e = 2; e <= 68; e++) {
            FieldCodes x = new FieldCodes();
            int count = e;
            EXPECT.due("isCode(" + e + ") empty", () -> x.isCode(count) ? 1 : 0, 0);
            EXPECT.due("check(" + e + ") empty", () -> x.check(count), Expect.ILLEGAL_STATE);
            Words.put(x, new int[e]);
            EXPECT.due("isCode(" + e + ") of e zeros", () -> x.isCode(count) ? 1 : 0, 0);
            x.put(1, 0);
            EXPECT.due("isCode(" + e + ") of e + 1 zeros", () -> x.isCode(count) ? 1 : 0, 1);
        }
    }

    private static void oneWrongByte() {
        Numbers numbers = new Numbers(12);
        for (int e : new int[] {2, 5, 30, 68}) {
            FieldCodes x = new FieldCodes();
            Words.put(x, Words.random(numbers, 40));
            x.check(e);
            for (int i = 0; i < 40 + e; i++) {
                int place = i;
                int v = numbers.between(1, 255);
                x.spoil(place, v);
                EXPECT.due("isCode(" + e + ") spoilt at " + i, () -> x.isCode(e) ? 1 : 0, 0);
                x.spoil(place, v);
            }
            EXPECT.due("isCode(" + e + ") when mended", () -> x.isCode(e) ? 1 : 0, 1);
        }
    }

    /** Words whose values are 0 at all the powers of 2 that count but one. */
    private static void oneWrongValue() {
        for (int e : new int[] {2, 3, 16, 67, 68}) {
            for (int exponent = 0; exponent < e; exponent++) {
                int[] word = {1};
                for (int k = 0; k < e; k++) {
                    if (k != exponent) {
                        word = Reference.wordProduct(word, new int[] {1, Reference.power(k)});
                    }
                }
                word = Reference.wordProduct(word, new int[] {1, 0, 0});
                FieldCodes x = new FieldCodes();
                Words.put(x, word);
                EXPECT.holds("a value that is not 0", x.value(x.power(exponent)) != 0);
                EXPECT.due("isCode(" + e + ") but for the value at 2^" + exponent,
                    () -> x.isCode(e) ? 1 : 0, 0);
            }
        }
    }

    private static void wrongCounts() {
        for (int length : new int[] {0, 1, 100, 255}) {
            FieldCodes x = new FieldCodes();
            Words.put(x, new int[length]);
            for (int e : NO_COUNTS) {
                EXPECT.due("check(" + e + ")", () -> x.check(e), Expect.ILLEGAL_ARGUMENT);
                EXPECT.due("isCode(" + e + ")", () -> x.isCode(e) ? 1 : 0, Expect.ILLEGAL_ARGUMENT);
            }
            EXPECT.due("wipe()", x::wipe, length);
        }
    }
}
