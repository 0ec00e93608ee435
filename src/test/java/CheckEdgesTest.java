/** The boundary cases of promises 11 and 12, a method for each sentence of the document. */
public final class CheckEdgesTest {
    private static final Expect EXPECT = new Expect();
    private static final int[] NO_COUNTS = {1, 0, -1, -2, -68, 69, 70, 136, 255, 256,
        Integer.MIN_VALUE, Integer.MAX_VALUE};
    private static final int[] LENGTHS = {0, 1, 69, 254, 255};

    public static void main(String[] args) {
        shortestWords();
        theOneRow();
        codewordsAlready();
        checksOfWrongCounts();
        checksOfEmptyWords();
        checksUpTo255();
        checksBeyond255();
        argumentsBeforeTheState();
        codewordsAreLonger();
        valuesThatCount();
        valuesThatDoNotCount();
        longestCodewords();
        questionsOfWrongCounts();
        EXPECT.end();
    }

    private static void shortestWords() {
        EXPECT.sentence("with which it is a codeword with e check bytes: how many bytes it has then");
        checkedIs(2, new int[] {1}, 1, 3, 2);
        checkedIs(2, new int[] {255}, 255, 28, 227);
        checkedIs(2, new int[] {0}, 0, 0, 0);
        checkedIs(3, new int[] {1}, 1, 7, 14, 8);
        checkedIs(2, new int[] {0, 1}, 0, 1, 3, 2);
        FieldCodes x = Words.holding(1);
        EXPECT.due("check(68) behind one byte", () -> x.check(68), 69);
        EXPECT.due("isCode(68) of 69 bytes", () -> x.isCode(68) ? 1 : 0, 1);
        EXPECT.due("at(0)", () -> x.at(0), 1);
        // The last coefficient is the product of 2 to the 0, 1, .., 67, which is 2 to the 2278.
        EXPECT.due("at(68)", () -> x.at(68), Reference.power(2278));
        EXPECT.due("at(69)", () -> x.at(69), FieldCodes.NONE);
    }

    private static void checkedIs(int e, int[] word, int... due) {
        FieldCodes x = Words.holding(word);
        EXPECT.due("check(" + e + ")", () -> x.check(e), due.length);
        EXPECT.word(x, due);
    }

    /** Any other last byte, or last but one, and it is no codeword. */
    private static void theOneRow() {
        EXPECT.sentence("The one row of e bytes comes behind the word");
        FieldCodes x = Words.holding(77, 0, 200);
        x.check(2);
        for (int place = 3; place <= 4; place++) {
            for (int v = 1; v < 256; v += 4) {
                x.spoil(place, v);
                EXPECT.due("isCode(2), byte " + place + " spoilt by " + v,
                    () -> x.isCode(2) ? 1 : 0, 0);
                x.spoil(place, v);
            }
        }
        EXPECT.due("isCode(2)", () -> x.isCode(2) ? 1 : 0, 1);
    }

    private static void codewordsAlready() {
        EXPECT.sentence("(which may be a codeword already)");
        FieldCodes x = Words.holding(1);
        x.check(2);
        EXPECT.due("check(2) behind a codeword", () -> x.check(2), 5);
        EXPECT.word(x, 1, 3, 2, 0, 0);
        EXPECT.due("check(3) behind that", () -> x.check(3), 8);
        EXPECT.due("isCode(3)", () -> x.isCode(3) ? 1 : 0, 1);
        EXPECT.due("check(68) behind that", () -> x.check(68), 76);
        EXPECT.due("isCode(68)", () -> x.isCode(68) ? 1 : 0, 1);
        int last = x.at(75);
        EXPECT.due("check(68) again", () -> x.check(68), 144);
        EXPECT.due("at(75), as it was", () -> x.at(75), last);
        for (int i = 76; i < 144; i++) {
            int place = i;
            EXPECT.due("at(" + i + "), as the rest is 0", () -> x.at(place), 0);
        }
        EXPECT.due("isCode(68) again", () -> x.isCode(68) ? 1 : 0, 1);
    }

    private static void checksOfWrongCounts() {
        EXPECT.sentence("IllegalArgumentException: e is not 2 .. 68. (check)");
        for (int e : NO_COUNTS) {
            FieldCodes x = Words.holding(4, 5);
            EXPECT.due("check(" + e + ")", () -> x.check(e), Expect.ILLEGAL_ARGUMENT);
            EXPECT.due("at(2)", () -> x.at(2), FieldCodes.NONE);
            EXPECT.due("check(2) after it", () -> x.check(2), 4);
        }
        for (int e : new int[] {2, 3, 67, 68}) {
            FieldCodes x = Words.holding(4, 5);
            EXPECT.due("check(" + e + ")", () -> x.check(e), e + 2);
        }
    }

    private static void checksOfEmptyWords() {
        EXPECT.sentence("IllegalStateException: the word is empty");
        FieldCodes x = new FieldCodes();
        FieldCodes wiped = Words.holding(1, 2, 3);
        wiped.wipe();
        for (int e = 2; e <= 68; e++) {
            int count = e;
            EXPECT.due("check(" + e + ") of a new object", () -> x.check(count),
                Expect.ILLEGAL_STATE);
            EXPECT.due("check(" + e + ") of a wiped word", () -> wiped.check(count),
                Expect.ILLEGAL_STATE);
        }
        EXPECT.due("wipe()", x::wipe, 0);
        EXPECT.due("put(1, 0)", () -> x.put(1, 0), 1);
        EXPECT.due("check(2) of one byte", () -> x.check(2), 3);
    }

    private static void checksUpTo255() {
        EXPECT.sentence("or would have more than 255 bytes (255 are none too many)");
        for (int e = 2; e <= 68; e++) {
            int count = e;
            FieldCodes x = random(255 - e);
            EXPECT.due("check(" + e + ") of " + (255 - e), () -> x.check(count), 255);
            EXPECT.due("isCode(" + e + ") of 255", () -> x.isCode(count) ? 1 : 0, 1);
            EXPECT.due("wipe()", x::wipe, 255);
        }
    }

    private static void checksBeyond255() {
        EXPECT.sentence("IllegalStateException: the word is empty, or would have more than 255 bytes.");
        for (int e = 2; e <= 68; e++) {
            for (int length : new int[] {256 - e, 257 - e, 254, 255}) {
                int count = e;
                FieldCodes x = random(length);
                int last = x.at(length - 1);
                EXPECT.due("check(" + e + ") of " + length, () -> x.check(count),
                    Expect.ILLEGAL_STATE);
                EXPECT.due("at(" + length + ")", () -> x.at(length), FieldCodes.NONE);
                EXPECT.due("at(" + (length - 1) + ")", () -> x.at(length - 1), last);
                EXPECT.due("wipe()", x::wipe, length);
            }
        }
    }

    private static void argumentsBeforeTheState() {
        EXPECT.sentence("the one named first when several would do (check)");
        for (int length : new int[] {0, 254, 255}) {
            FieldCodes x = random(length);
            for (int e : NO_COUNTS) {
                EXPECT.due("check(" + e + ") of " + length, () -> x.check(e),
                    Expect.ILLEGAL_ARGUMENT);
            }
        }
    }

    private static void codewordsAreLonger() {
        EXPECT.sentence("a word is a CODEWORD if it is longer than e");
        for (int e = 2; e <= 68; e++) {
            int count = e;
            FieldCodes x = new FieldCodes();
            EXPECT.due("isCode(" + e + ") of no byte", () -> x.isCode(count) ? 1 : 0, 0);
            for (int length = 1; length <= e + 2; length++) {
                x.put(1, 0);
                EXPECT.due("isCode(" + e + ") of " + length + " zeros",
                    () -> x.isCode(count) ? 1 : 0, length > e ? 1 : 0);
            }
        }
    }

    /** The product of all x - 2^k but one has the value 0 at all that count but one. */
    private static void valuesThatCount() {
        EXPECT.sentence("its values at 2 to the 0, 1, .., e - 1 are all 0");
        for (int e : new int[] {2, 3, 4, 35, 68}) {
            for (int but : new int[] {0, 1, e - 2, e - 1}) {
                int[] word = {1, 0};
                for (int k = 0; k < e; k++) {
                    if (k != but) {
                        word = Reference.wordProduct(word, new int[] {1, Reference.power(k)});
                    }
                }
                FieldCodes x = Words.holding(word);
                EXPECT.due("isCode(" + e + "), not 0 at 2^" + but, () -> x.isCode(e) ? 1 : 0, 0);
                if (but > 1) {
                    EXPECT.due("isCode(" + but + ") of it", () -> x.isCode(but) ? 1 : 0, 1);
                }
            }
        }
    }

    private static void valuesThatDoNotCount() {
        EXPECT.sentence("2 to the 0, 1, .., e - 1 (and not e)");
        for (int e = 2; e <= 67; e++) {
            int count = e;
            FieldCodes x = Words.holding(1);
            x.check(e);
            EXPECT.due("isCode(" + e + ")", () -> x.isCode(count) ? 1 : 0, 1);
            EXPECT.holds("the value at 2^" + e + " is not 0", x.value(x.power(e)) != 0);
            x.put(1, 0);
            EXPECT.due("isCode(" + e + ") moved up", () -> x.isCode(count) ? 1 : 0, 1);
            EXPECT.due("isCode(" + (e + 1) + ")", () -> x.isCode(count + 1) ? 1 : 0, 0);
        }
    }

    private static void longestCodewords() {
        EXPECT.sentence("Whether the word is a codeword with e check bytes. (255 bytes)");
        for (int e : new int[] {2, 67, 68}) {
            FieldCodes x = random(255 - e);
            x.check(e);
            EXPECT.due("isCode(" + e + ")", () -> x.isCode(e) ? 1 : 0, 1);
            for (int place : new int[] {0, 254 - e, 255 - e, 254}) {
                x.spoil(place, 1);
                EXPECT.due("isCode(" + e + ") spoilt at " + place, () -> x.isCode(e) ? 1 : 0, 0);
                x.spoil(place, 1);
            }
            EXPECT.due("isCode(" + e + ") in the end", () -> x.isCode(e) ? 1 : 0, 1);
        }
    }

    private static void questionsOfWrongCounts() {
        EXPECT.sentence("IllegalArgumentException: e is not 2 .. 68. (isCode)");
        for (int length : LENGTHS) {
            FieldCodes x = Words.holding(new int[length]);
            for (int e : NO_COUNTS) {
                EXPECT.due("isCode(" + e + ") of " + length, () -> x.isCode(e) ? 1 : 0,
                    Expect.ILLEGAL_ARGUMENT);
            }
            EXPECT.due("isCode(2) of " + length, () -> x.isCode(2) ? 1 : 0, length > 2 ? 1 : 0);
            EXPECT.due("isCode(68) of " + length, () -> x.isCode(68) ? 1 : 0, length > 68 ? 1 : 0);
        }
    }

    private static FieldCodes random(int length) {
        return Words.holding(Words.random(new Numbers(length), length));
    }
}
