/** Promises 15 to 18: word15, read15, word18, read18. */
public final class ShortWordTest {
    private static final Expect EXPECT = new Expect();

    public static void main(String[] args) {
        words();
        everyRowOf15();
        everyRowOf18();
        wrongInputs();
        EXPECT.end();
    }

    private static void words() {
        FieldCodes x = new FieldCodes();
        for (int d = 0; d < 32; d++) {
            int number = d;
            EXPECT.due("word15(" + d + ")", () -> x.word15(number), Reference.word15(d));
        }
        for (int d = 0; d < 64; d++) {
            int number = d;
            EXPECT.due("word18(" + d + ")", () -> x.word18(number), Reference.word18(d));
        }
        // As printed codes have them.
        EXPECT.due("word15(0)", () -> x.word15(0), 0b101010000010010);
        EXPECT.due("word15(8)", () -> x.word15(8), 0b111011111000100);
        EXPECT.due("word15(15)", () -> x.word15(15), 0b110100101110110);
        EXPECT.due("word15(23)", () -> x.word15(23), 0b000100000111011);
        EXPECT.due("word18(7)", () -> x.word18(7), 0b000111110010010100);
        EXPECT.due("word18(40)", () -> x.word18(40), 0b101000110001101001);
    }

    private static void everyRowOf15() {
        int[] words = new int[32];
        for (int d = 0; d < 32; d++) {
            words[d] = Reference.word15(d);
        }
        FieldCodes x = new FieldCodes();
        for (int bits = 0; bits < 1 << 15; bits++) {
            if (bits % 512 == 0) {
                x = new FieldCodes();
            }
            FieldCodes fresh = x;
            int row = bits;
            EXPECT.due("read15(" + bits + ")", () -> fresh.read15(row), near(words, bits));
        }
    }

    private static void everyRowOf18() {
        int[] words = new int[64];
        for (int d = 0; d < 64; d++) {
            words[d] = Reference.word18(d);
        }
        FieldCodes x = new FieldCodes();
        for (int bits = 0; bits < 1 << 18; bits++) {
            if (bits % 512 == 0) {
                x = new FieldCodes();
            }
            FieldCodes fresh = x;
            int row = bits;
            EXPECT.due("read18(" + bits + ")", () -> fresh.read18(row), near(words, bits));
        }
    }

    private static int near(int[] words, int bits) {
        int found = FieldCodes.NONE;
        for (int d = 0; d < words.length; d++) {
            int differing = 0;
            for (int k = 0; k < 18; k++) {
                differing += (words[d] ^ bits) >> k & 1;
            }
            if (differing <= 3) {
                EXPECT.holds("one number alone for " + bits, found == FieldCodes.NONE);
                found = d;
            }
        }
        return found;
    }

    private static void wrongInputs() {
        FieldCodes x = new FieldCodes();
        String want = Expect.ILLEGAL_ARGUMENT;
        for (int d : new int[] {-1, 32, 63, 64, Integer.MIN_VALUE, Integer.MAX_VALUE}) {
            EXPECT.due("word15(" + d + ")", () -> x.word15(d), want);
        }
        for (int d : new int[] {-1, 64, 65, 128, Integer.MIN_VALUE, Integer.MAX_VALUE}) {
            EXPECT.due("word18(" + d + ")", () -> x.word18(d), want);
        }
        for (int bits : new int[] {-1, 32768, 262143, Integer.MIN_VALUE, Integer.MAX_VALUE}) {
            EXPECT.due("read15(" + bits + ")", () -> x.read15(bits), want);
        }
        for (int bits : new int[] {-1, 262144, 524288, Integer.MIN_VALUE, Integer.MAX_VALUE}) {
            EXPECT.due("read18(" + bits + ")", () -> x.read18(bits), want);
        }
    }
}
