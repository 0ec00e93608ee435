/** The boundary cases of promises 15 to 18, a method for each sentence of the document. */
public final class ShortWordEdgesTest {
    private static final Expect EXPECT = new Expect();
    private static final String WANT = Expect.ILLEGAL_ARGUMENT;

    /** As a table of printed codes has them, from 0 to 31. */
    private static final int[] WORDS_15 = {0x5412, 0x5125, 0x5E7C, 0x5B4B, 0x45F9, 0x40CE, 0x4F97,
        0x4AA0, 0x77C4, 0x72F3, 0x7DAA, 0x789D, 0x662F, 0x6318, 0x6C41, 0x6976, 0x1689, 0x13BE,
        0x1CE7, 0x19D0, 0x0762, 0x0255, 0x0D0C, 0x083B, 0x355F, 0x3068, 0x3F31, 0x3A06, 0x24B4,
        0x2183, 0x2EDA, 0x2BED};

    /** As a table of printed codes has them, from 7 to 40. */
    private static final int[] WORDS_18_FROM_7 = {0x07C94, 0x085BC, 0x09A99, 0x0A4D3, 0x0BBF6,
        0x0C762, 0x0D847, 0x0E60D, 0x0F928, 0x10B78, 0x1145D, 0x12A17, 0x13532, 0x149A6, 0x15683,
        0x168C9, 0x177EC, 0x18EC4, 0x191E1, 0x1AFAB, 0x1B08E, 0x1CC1A, 0x1D33F, 0x1ED75, 0x1F250,
        0x209D5, 0x216F0, 0x228BA, 0x2379F, 0x24B0B, 0x2542E, 0x26A64, 0x27541, 0x28C69};

    public static void main(String[] args) {
        wordsOf15();
        wordsOf18();
        numbersOf15();
        numbersOf18();
        threeBitsOf15();
        fourBitsOf15();
        noNumberOf15();
        threeBitsOf18();
        fourBitsOf18();
        bitsOf15();
        bitsOf18();
        EXPECT.end();
    }

    private static void wordsOf15() {
        EXPECT.sentence("A word of 15 bits belongs to each number d, 0 .. 31");
        FieldCodes x = new FieldCodes();
        EXPECT.due("word15(0)", () -> x.word15(0), 21522);
        EXPECT.due("word15(1)", () -> x.word15(1), 1335 ^ 21522);
        for (int d = 0; d < 32; d++) {
            int number = d;
            EXPECT.due("word15(" + d + ")", () -> x.word15(number), WORDS_15[d]);
        }
    }

    private static void wordsOf18() {
        EXPECT.sentence("A word of 18 bits belongs to each number d, 0 .. 63");
        FieldCodes x = new FieldCodes();
        EXPECT.due("word18(0)", () -> x.word18(0), 0);
        EXPECT.due("word18(1)", () -> x.word18(1), 7973);
        EXPECT.due("word18(63)", () -> x.word18(63), Reference.word18(63));
        for (int d = 7; d <= 40; d++) {
            int number = d;
            EXPECT.due("word18(" + d + ")", () -> x.word18(number), WORDS_18_FROM_7[d - 7]);
        }
        for (int d = 0; d < 64; d++) {
            int number = d;
            EXPECT.due("the upper bits of word18(" + d + ")", () -> x.word18(number) >> 12, d);
        }
    }

    private static void numbersOf15() {
        EXPECT.sentence("IllegalArgumentException: d is not 0 .. 31.");
        FieldCodes x = new FieldCodes();
        for (int d : new int[] {-1, -2, -31, -32, 32, 33, 63, 64, Integer.MIN_VALUE,
            Integer.MAX_VALUE}) {
            EXPECT.due("word15(" + d + ")", () -> x.word15(d), WANT);
        }
        EXPECT.due("word15(0)", () -> x.word15(0), 0x5412);
        EXPECT.due("word15(31)", () -> x.word15(31), 0x2BED);
    }

    private static void numbersOf18() {
        EXPECT.sentence("IllegalArgumentException: d is not 0 .. 63.");
        FieldCodes x = new FieldCodes();
        for (int d : new int[] {-1, -2, -63, -64, 64, 65, 127, 128, Integer.MIN_VALUE,
            Integer.MAX_VALUE}) {
            EXPECT.due("word18(" + d + ")", () -> x.word18(d), WANT);
        }
        EXPECT.due("word18(0)", () -> x.word18(0), 0);
        EXPECT.due("word18(32)", () -> x.word18(32), 0x209D5);
        EXPECT.due("word18(63)", () -> x.word18(63) >> 12, 63);
    }

    private static void threeBitsOf15() {
        EXPECT.sentence("The number whose word of 15 bits differs in no more than three bits");
        for (int d = 0; d < 32; d++) {
            int number = d;
            for (int count = 0; count <= 3; count++) {
                eachRow(15, count, (x, bits) -> EXPECT.due("read15(" + (WORDS_15[number] ^ bits) + ")",
                    () -> x.read15(WORDS_15[number] ^ bits), number));
            }
        }
    }

    /** Seven bits at least part two words, so that a fourth wrong bit may lead to another. */
    private static void fourBitsOf15() {
        EXPECT.sentence("no more than three bits (and four are more), of 15");
        for (int d = 0; d < 32; d++) {
            int number = d;
            eachRow(15, 4, (x, bits) -> {
                int read = x.read15(WORDS_15[number] ^ bits);
                EXPECT.holds("read15(" + (WORDS_15[number] ^ bits) + ") is not " + number,
                    read != number);
                EXPECT.holds("what it is is near", read == FieldCodes.NONE
                    || Integer.bitCount(WORDS_15[number] ^ bits ^ WORDS_15[read]) == 3);
            });
        }
    }

    private static void noNumberOf15() {
        EXPECT.sentence("NONE when there is none. (of 15)");
        int none = 0;
        FieldCodes x = new FieldCodes();
        for (int bits = 0; bits < 512; bits++) {
            int row = bits;
            boolean near = false;
            for (int word : WORDS_15) {
                near |= Integer.bitCount(word ^ bits) <= 3;
            }
            if (!near) {
                none++;
                EXPECT.due("read15(" + bits + ")", () -> x.read15(row), FieldCodes.NONE);
            }
        }
        EXPECT.holds("there are rows that are near to no word", none > 0);
    }

    private static void threeBitsOf18() {
        EXPECT.sentence("The number whose word of 18 bits differs in no more than three bits");
        for (int d = 0; d < 64; d++) {
            int number = d;
            int word = Reference.word18(d);
            for (int count = 0; count <= 3; count++) {
                eachRow(18, count, (x, bits) -> EXPECT.due("read18(" + (word ^ bits) + ")",
                    () -> x.read18(word ^ bits), number));
            }
        }
    }

    /** Eight bits at least part two words, so that four wrong bits lead to none. */
    private static void fourBitsOf18() {
        EXPECT.sentence("no more than three bits from some bits; NONE when there is none. (of 18)");
        for (int d = 0; d < 64; d++) {
            int word = Reference.word18(d);
            eachRow(18, 4, (x, bits) -> EXPECT.due("read18(" + (word ^ bits) + ")",
                () -> x.read18(word ^ bits), FieldCodes.NONE));
        }
    }

    private static void bitsOf15() {
        EXPECT.sentence("IllegalArgumentException: bits is not 0 .. 32767.");
        FieldCodes x = new FieldCodes();
        for (int bits : new int[] {-1, -2, -32768, 32768, 32769, 65535, 65536, 32768 | 0x5412,
            Integer.MIN_VALUE, Integer.MIN_VALUE | 0x5412, Integer.MAX_VALUE}) {
            EXPECT.due("read15(" + bits + ")", () -> x.read15(bits), WANT);
        }
        EXPECT.due("read15(0)", () -> x.read15(0), nearest15(0));
        EXPECT.due("read15(32767)", () -> x.read15(32767), nearest15(32767));
    }

    private static int nearest15(int bits) {
        for (int d = 0; d < 32; d++) {
            if (Integer.bitCount(WORDS_15[d] ^ bits) <= 3) {
                return d;
            }
        }
        return FieldCodes.NONE;
    }

    private static void bitsOf18() {
        EXPECT.sentence("IllegalArgumentException: bits is not 0 .. 262143.");
        FieldCodes x = new FieldCodes();
        for (int bits : new int[] {-1, -2, -262144, 262144, 262145, 524287, 524288,
            262144 | 0x07C94, Integer.MIN_VALUE, Integer.MIN_VALUE | 0x07C94, Integer.MAX_VALUE}) {
            EXPECT.due("read18(" + bits + ")", () -> x.read18(bits), WANT);
        }
        EXPECT.due("read18(0)", () -> x.read18(0), 0);
        EXPECT.due("read18(262143)", () -> x.read18(262143), nearest18(262143));
    }

    private static int nearest18(int bits) {
        for (int d = 0; d < 64; d++) {
            if (Integer.bitCount(Reference.word18(d) ^ bits) <= 3) {
                return d;
            }
        }
        return FieldCodes.NONE;
    }

    private interface RowTest {
        void of(FieldCodes x, int bits);
    }

    /** Every row of some bits with as many ones as count, each object for at most 512 of them. */
    private static void eachRow(int length, int count, RowTest test) {
        FieldCodes x = new FieldCodes();
        int calls = 0;
        for (int bits = 0; bits < 1 << length; bits++) {
            if (Integer.bitCount(bits) == count) {
                if (calls == 512) {
                    x = new FieldCodes();
                    calls = 0;
                }
                calls++;
                test.of(x, bits);
            }
        }
    }
}
