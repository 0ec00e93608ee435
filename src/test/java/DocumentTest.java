import java.util.Arrays;

/**
 * The document from its first line to its last: each sentence that promises an answer or a change of
 * state, in its order, with ordinary inputs. The edges of each have tests of their own.
 */
public final class DocumentTest {
    private static final Expect EXPECT = new Expect();
    private static final int NONE = FieldCodes.NONE;

    public static void main(String[] args) {
        whatItIs();
        sums();
        products();
        logarithms();
        quotients();
        coefficients();
        codewords();
        codewordsAreLonger();
        differingWords();
        shortWords();
        refusedCalls();
        newObject();
        product();
        quotient();
        power();
        logarithm();
        put();
        wipe();
        at();
        spoil();
        value();
        check();
        isCode();
        correct();
        changed();
        changedByTheLatest();
        word15();
        read15();
        word18();
        read18();
        EXPECT.end();
    }

    /** The check bytes of a well known printed code, some of whose bytes are lost and come back. */
    private static void whatItIs() {
        EXPECT.sentence("Words of bytes with check bytes [..] which are put right");
        int[] printed = {32, 91, 11, 120, 209, 114, 220, 77, 67, 64, 236, 17, 236, 17, 236, 17,
            196, 35, 39, 119, 235, 215, 231, 226, 93, 23};
        FieldCodes x = Words.holding(Arrays.copyOf(printed, 16));
        EXPECT.due("check(10)", () -> x.check(10), 26);
        EXPECT.word(x, printed);
        for (int place : new int[] {0, 5, 15, 16, 25}) {
            x.spoil(place, 255 - place);
        }
        EXPECT.due("correct(10, 5)", () -> x.correct(10, 5), 5);
        EXPECT.word(x, printed);
        EXPECT.due("read15 of a printed row", () -> x.read15(0b110100101110110), 15);
        EXPECT.due("read18 of a printed row", () -> x.read18(0b000111110010010100), 7);
    }

    private static void sums() {
        EXPECT.sentence("SUM: the bits one by one, exclusive or.");
        for (int a = 0; a < 256; a++) {
            int start = a;
            FieldCodes x = Words.holding(a);
            // Without 0, as twice 256 spoils and the put are more than the object's calls.
            for (int v = 1; v < 256; v++) {
                int added = v;
                EXPECT.due("spoil(0, " + v + ") of " + a, () -> x.spoil(0, added), bitSum(start, v));
                x.spoil(0, v);
            }
        }
    }

    private static int bitSum(int a, int b) {
        int sum = 0;
        for (int k = 0; k < 8; k++) {
            int place = 1 << k;
            boolean differ = (a / place) % 2 != (b / place) % 2;
            sum += differ ? place : 0;
        }
        return sum;
    }

    /** Every product out of those with 2, by which the bits of a move up. */
    private static void products() {
        EXPECT.sentence("PRODUCT of a and b");
        for (int a = 0; a < 256; a++) {
            int left = a;
            FieldCodes x = new FieldCodes();
            int[] moved = new int[8];
            moved[0] = a;
            for (int k = 1; k < 8; k++) {
                int twice = 2 * moved[k - 1];
                moved[k] = twice > 255 ? twice - 256 ^ 0b11101 : twice;
            }
            for (int b = 0; b < 256; b++) {
                int right = b;
                int due = 0;
                for (int k = 0; k < 8; k++) {
                    due ^= (b >> k & 1) * moved[k];
                }
                EXPECT.due("product(" + a + ", " + b + ")", () -> x.product(left, right), due);
            }
        }
    }

    private static void logarithms() {
        EXPECT.sentence("Each element but 0 is a power of 2 [..] with an exponent 0 .. 254");
        FieldCodes x = new FieldCodes();
        int element = 1;
        for (int k = 0; k < 255; k++) {
            int a = element;
            EXPECT.due("logarithm(" + a + ")", () -> x.logarithm(a), k);
            element = x.product(element, 2);
        }
        EXPECT.holds("2 to the 255 is 1", element == 1);
    }

    private static void quotients() {
        EXPECT.sentence("the element whose product with b is a");
        for (int b = 1; b < 256; b++) {
            FieldCodes x = new FieldCodes();
            for (int a = 0; a < 256; a++) {
                int dividend = a;
                int divisor = b;
                EXPECT.due("quotient(" + a + ", " + b + ") times b",
                    () -> x.product(x.quotient(dividend, divisor), divisor), a);
            }
        }
    }

    /** 5 x^3 + 7 x + 9, term by term. */
    private static void coefficients() {
        EXPECT.sentence("w(i) as the coefficient of x to the n - 1 - i");
        FieldCodes x = Words.holding(5, 0, 7, 9);
        for (int a = 0; a < 256; a++) {
            int element = a;
            int cube = Reference.product(a, Reference.product(a, a));
            int due = Reference.product(5, cube) ^ Reference.product(7, a) ^ 9;
            EXPECT.due("value(" + a + ")", () -> x.value(element), due);
        }
    }

    private static void codewords() {
        EXPECT.sentence("its values at 2 to the 0, 1, .., e - 1 are all 0");
        for (int e = 2; e <= 68; e++) {
            FieldCodes x = Words.holding(Words.random(new Numbers(e), 2 * e));
            x.check(e);
            for (int k = 0; k < e; k++) {
                int exponent = k;
                EXPECT.due("value at 2^" + k + ", check(" + e + ")",
                    () -> x.value(x.power(exponent)), 0);
            }
        }
    }

    private static void codewordsAreLonger() {
        EXPECT.sentence("a word is a CODEWORD if it is longer than e");
        for (int e = 2; e <= 68; e++) {
            int count = e;
            FieldCodes x = Words.holding(new int[e]);
            EXPECT.due("isCode(" + e + ") of as many", () -> x.isCode(count) ? 1 : 0, 0);
            x.put(1, 0L);
            EXPECT.due("isCode(" + e + ") of one more", () -> x.isCode(count) ? 1 : 0, 1);
        }
    }

    /** As two codewords differ at more than e places, one other byte alters every check byte. */
    private static void differingWords() {
        EXPECT.sentence("there is at most one codeword of its length from which it differs");
        for (int e = 2; e <= 68; e++) {
            int[] word = Words.random(new Numbers(e), 5);
            FieldCodes x = Words.holding(word);
            word[e % 5] ^= 1 + e;
            FieldCodes y = Words.holding(word);
            x.check(e);
            y.check(e);
            for (int i = 5; i < 5 + e; i++) {
                EXPECT.holds("byte " + i + " with " + e + " check bytes differs", x.at(i) != y.at(i));
            }
        }
    }

    /** The words, with the mask taken off, are the multiples of the divisor. */
    private static void shortWords() {
        EXPECT.sentence("1024 d, and the rest of that by the polynomial [..] exclusive or 21522");
        FieldCodes x = new FieldCodes();
        for (int d = 0; d < 32; d++) {
            int number = d;
            EXPECT.due("the number in word15(" + d + ")", () -> (x.word15(number) ^ 21522) / 1024, d);
            EXPECT.due("word15(" + d + ") by 1335",
                () -> Reference.rest(x.word15(number) ^ 21522, 1335, 10), 0);
        }
        EXPECT.sentence("4096 d, and the rest of that by [..] (7973)");
        for (int d = 0; d < 64; d++) {
            int number = d;
            EXPECT.due("the number in word18(" + d + ")", () -> x.word18(number) / 4096, d);
            EXPECT.due("word18(" + d + ") by 7973",
                () -> Reference.rest(x.word18(number), 7973, 12), 0);
        }
    }

    private static void refusedCalls() {
        EXPECT.sentence("Methods throw what their comments name, the one named first");
        FieldCodes x = Words.holding(6, 7);
        EXPECT.due("quotient(256, 0)", () -> x.quotient(256, 0), Expect.ILLEGAL_ARGUMENT);
        EXPECT.due("spoil(2, 256)", () -> x.spoil(2, 256), Expect.ILLEGAL_ARGUMENT);
        EXPECT.due("check(69)", () -> new FieldCodes().check(69), Expect.ILLEGAL_ARGUMENT);
        EXPECT.due("correct(4, 3)", () -> x.correct(4, 3), Expect.ILLEGAL_ARGUMENT);
        EXPECT.sentence("a call that throws, or answers NONE, changes nothing");
        EXPECT.word(x, 6, 7);
    }

    private static void newObject() {
        EXPECT.sentence("An empty word; nothing was put right.");
        FieldCodes x = new FieldCodes();
        EXPECT.word(x);
        EXPECT.due("changed(0)", () -> x.changed(0), NONE);
        EXPECT.due("wipe()", x::wipe, 0);
        theObjectsDoNotShare();
    }

    private static void theObjectsDoNotShare() {
        FieldCodes[] row = new FieldCodes[5];
        for (int k = 0; k < row.length; k++) {
            row[k] = Words.holding(k, k + 1, k + 2);
        }
        for (int k = 0; k < row.length; k++) {
            row[k].check(2 + k);
        }
        for (int k = 0; k < row.length; k++) {
            row[k].spoil(k % 3, 9);
        }
        for (FieldCodes x : row) {
            EXPECT.due("correct(2, 1)", () -> x.correct(2, 1), 1);
        }
        for (int k = 0; k < row.length; k++) {
            FieldCodes x = row[k];
            EXPECT.due("changed(0) of object " + k, () -> x.changed(0), k % 3);
            EXPECT.due("at(0) of object " + k, () -> x.at(0), k);
            EXPECT.due("wipe() of object " + k, x::wipe, 5 + k);
        }
    }

    private static void product() {
        EXPECT.sentence("The product of two elements.");
        FieldCodes x = new FieldCodes();
        EXPECT.due("product(3, 7)", () -> x.product(3, 7), 9);
        EXPECT.due("product(128, 4)", () -> x.product(128, 4), 58);
        EXPECT.sentence("IllegalArgumentException here and below: [..] is not 0 .. 255");
        for (int a : new int[] {-1, 256}) {
            String want = Expect.ILLEGAL_ARGUMENT;
            EXPECT.due("product(" + a + ", 5)", () -> x.product(a, 5), want);
            EXPECT.due("product(5, " + a + ")", () -> x.product(5, a), want);
            EXPECT.due("quotient(" + a + ", 5)", () -> x.quotient(a, 5), want);
            EXPECT.due("quotient(5, " + a + ")", () -> x.quotient(5, a), want);
            EXPECT.due("logarithm(" + a + ")", () -> x.logarithm(a), want);
            EXPECT.due("value(" + a + ")", () -> x.value(a), want);
        }
    }

    private static void quotient() {
        EXPECT.sentence("The quotient of two elements.");
        FieldCodes x = new FieldCodes();
        EXPECT.due("quotient(9, 7)", () -> x.quotient(9, 7), 3);
        EXPECT.due("quotient(58, 4)", () -> x.quotient(58, 4), 128);
        EXPECT.sentence("ArithmeticException: b is 0.");
        EXPECT.due("quotient(9, 0)", () -> x.quotient(9, 0), Expect.ARITHMETIC);
    }

    private static void power() {
        EXPECT.sentence("2 to some power, which may be below 0.");
        FieldCodes x = new FieldCodes();
        int up = 1;
        int down = 1;
        for (int k = 0; k <= 80; k++) {
            int exponent = 7 * k;
            EXPECT.due("power(" + exponent + ")", () -> x.power(exponent), up);
            EXPECT.due("power(" + -exponent + ")", () -> x.power(-exponent), down);
            up = x.product(up, 128);
            down = x.quotient(down, 128);
        }
    }

    private static void logarithm() {
        EXPECT.sentence("The logarithm of an element.");
        FieldCodes x = new FieldCodes();
        for (int k = 0; k < 255; k++) {
            int exponent = k;
            EXPECT.due("logarithm(power(" + k + "))", () -> x.logarithm(x.power(exponent)), k);
        }
        EXPECT.sentence("ArithmeticException: it is 0.");
        EXPECT.due("logarithm(0)", () -> x.logarithm(0), Expect.ARITHMETIC);
    }

    private static void put() {
        EXPECT.sentence("The n lowest bytes of a long, the lowest first, come behind the word.");
        FieldCodes x = new FieldCodes();
        EXPECT.due("put(3, ..)", () -> x.put(3, 0x1122334455667788L), 3);
        EXPECT.due("put(5, ..)", () -> x.put(5, -2L), 8);
        EXPECT.word(x, 0x88, 0x77, 0x66, 254, 255, 255, 255, 255);
        EXPECT.sentence("Answers how many bytes it has then; NONE, adding none, [..] more than 255.");
        for (int had = 8; had < 248; had += 8) {
            EXPECT.due("put(8, 1) on " + had, () -> x.put(8, 1L), had + 8);
        }
        EXPECT.due("put(8, 1) on 248", () -> x.put(8, 1L), NONE);
        EXPECT.due("at(248)", () -> x.at(248), NONE);
        EXPECT.due("put(7, 1) on 248", () -> x.put(7, 1L), 255);
        EXPECT.due("put(1, 1) on 255", () -> x.put(1, 1L), NONE);
        EXPECT.sentence("IllegalArgumentException: n is not 1 .. 8.");
        EXPECT.due("put(0, 1)", () -> x.put(0, 1L), Expect.ILLEGAL_ARGUMENT);
        EXPECT.due("put(9, 1)", () -> x.put(9, 1L), Expect.ILLEGAL_ARGUMENT);
    }

    private static void wipe() {
        EXPECT.sentence("The word is empty then (what changed() tells stays). [..] how many it had.");
        FieldCodes x = Words.holding(0, 9, 0, 0);
        EXPECT.due("correct(3, 1)", () -> x.correct(3, 1), 1);
        EXPECT.due("wipe()", x::wipe, 4);
        EXPECT.word(x);
        EXPECT.due("changed(0)", () -> x.changed(0), 1);
    }

    private static void at() {
        EXPECT.sentence("Byte i of the word; NONE when there is none.");
        int[] word = Words.random(new Numbers(21), 97);
        FieldCodes x = Words.holding(word);
        EXPECT.word(x, word);
        EXPECT.due("at(-1)", () -> x.at(-1), NONE);
    }

    private static void spoil() {
        EXPECT.sentence("Byte i of the word is summed up with v: what it is then.");
        FieldCodes x = Words.holding(10, 20, 30);
        EXPECT.due("spoil(1, 21)", () -> x.spoil(1, 21), 1);
        EXPECT.due("spoil(2, 0)", () -> x.spoil(2, 0), 30);
        EXPECT.word(x, 10, 1, 30);
        EXPECT.sentence("IllegalArgumentException: v is no element.");
        EXPECT.due("spoil(1, 256)", () -> x.spoil(1, 256), Expect.ILLEGAL_ARGUMENT);
        EXPECT.sentence("IndexOutOfBoundsException: there is no such byte.");
        EXPECT.due("spoil(3, 1)", () -> x.spoil(3, 1), Expect.OUT_OF_BOUNDS);
        EXPECT.word(x, 10, 1, 30);
    }

    private static void value() {
        EXPECT.sentence("The value of the word at an element; 0 for an empty word.");
        FieldCodes x = new FieldCodes();
        EXPECT.due("value(7) of no bytes", () -> x.value(7), 0);
        int[] word = Words.random(new Numbers(22), 45);
        Words.put(x, word);
        for (int a = 0; a < 256; a++) {
            int element = a;
            EXPECT.due("value(" + a + ")", () -> x.value(element), Reference.value(word, a));
        }
    }

    private static void check() {
        EXPECT.sentence("The one row of e bytes comes behind the word [..] how many bytes it has then.");
        for (int e = 2; e <= 68; e++) {
            int count = e;
            int[] word = Words.random(new Numbers(e), 10 + e);
            int[] due = codeword(word, e);
            FieldCodes x = Words.holding(word);
            EXPECT.due("check(" + e + ")", () -> x.check(count), due.length);
            EXPECT.word(x, due);
            EXPECT.due("check(" + e + ") behind it", () -> x.check(count), due.length + e);
            EXPECT.word(x, codeword(due, e));
        }
        EXPECT.sentence("IllegalArgumentException: e is not 2 .. 68.");
        FieldCodes x = Words.holding(new int[200]);
        EXPECT.due("check(1)", () -> x.check(1), Expect.ILLEGAL_ARGUMENT);
        EXPECT.due("check(69)", () -> x.check(69), Expect.ILLEGAL_ARGUMENT);
        EXPECT.sentence("IllegalStateException: the word is empty, or would have more than 255 bytes.");
        EXPECT.due("check(56) of 200", () -> x.check(56), Expect.ILLEGAL_STATE);
        EXPECT.due("check(2) of none", () -> new FieldCodes().check(2), Expect.ILLEGAL_STATE);
    }

    private static void isCode() {
        EXPECT.sentence("Whether the word is a codeword with e check bytes.");
        for (int e = 2; e <= 68; e++) {
            FieldCodes x = Words.holding(codeword(Words.random(new Numbers(e), 20), e));
            for (int count = 2; count <= 68; count++) {
                int asked = count;
                EXPECT.due("isCode(" + count + ") with " + e, () -> x.isCode(asked) ? 1 : 0,
                    count <= e ? 1 : 0);
            }
            EXPECT.due("isCode(1)", () -> x.isCode(1) ? 1 : 0, Expect.ILLEGAL_ARGUMENT);
            EXPECT.due("isCode(69)", () -> x.isCode(69) ? 1 : 0, Expect.ILLEGAL_ARGUMENT);
        }
    }

    private static void correct() {
        EXPECT.sentence("The word becomes the codeword with e check bytes [..] at how many; NONE");
        Numbers numbers = new Numbers(23);
        for (int e = 2; e <= 68; e++) {
            int count = e;
            int[] code = codeword(Words.random(numbers, 50), e);
            for (int wrong = 0; wrong <= e / 2; wrong += 1 + e / 8) {
                int due = wrong;
                FieldCodes x = Words.holding(code);
                for (int place : numbers.places(wrong, code.length)) {
                    x.spoil(place, numbers.between(1, 255));
                }
                if (wrong > 0) {
                    EXPECT.due("correct(" + e + "), fewer", () -> x.correct(count, due - 1), NONE);
                }
                EXPECT.due("correct(" + e + ", " + wrong + ")", () -> x.correct(count, due), due);
                EXPECT.word(x, code);
            }
        }
        FieldCodes far = Words.holding(0, 1, 1);
        EXPECT.due("correct(2, 1) of 0 1 1", () -> far.correct(2, 1), NONE);
        EXPECT.word(far, 0, 1, 1);
        EXPECT.sentence("e is not 2 .. 68, or m is below 0 or 2 m above e. [..] not longer than e.");
        FieldCodes x = Words.holding(new int[40]);
        EXPECT.due("correct(1, 0)", () -> x.correct(1, 0), Expect.ILLEGAL_ARGUMENT);
        EXPECT.due("correct(69, 2)", () -> x.correct(69, 2), Expect.ILLEGAL_ARGUMENT);
        EXPECT.due("correct(9, -1)", () -> x.correct(9, -1), Expect.ILLEGAL_ARGUMENT);
        EXPECT.due("correct(9, 5)", () -> x.correct(9, 5), Expect.ILLEGAL_ARGUMENT);
        EXPECT.due("correct(40, 5)", () -> x.correct(40, 5), Expect.ILLEGAL_STATE);
    }

    private static void changed() {
        EXPECT.sentence("The i-th place (from 0), by rising numbers, [..]; NONE when there are fewer");
        FieldCodes x = Words.holding(new int[80]);
        EXPECT.due("changed(0), none such", () -> x.changed(0), NONE);
        for (int[] places : new int[][] {{70, 3, 12, 44}, {8, 1}, {79}}) {
            for (int place : places) {
                x.spoil(place, 80 - place);
            }
            EXPECT.due("correct(9, 4)", () -> x.correct(9, 4), places.length);
            Arrays.sort(places);
            for (int i = 0; i < places.length; i++) {
                int index = i;
                EXPECT.due("changed(" + i + ")", () -> x.changed(index), places[i]);
            }
            EXPECT.due("changed(" + places.length + ")", () -> x.changed(places.length), NONE);
        }
    }

    private static void changedByTheLatest() {
        EXPECT.sentence("the latest correct() that did not answer NONE or throw (whatever became [..])");
        FieldCodes x = Words.holding(0, 0, 0, 7, 0, 0);
        EXPECT.due("correct(4, 2)", () -> x.correct(4, 2), 1);
        x.spoil(1, 1);
        EXPECT.due("correct(4, 0) of a spoilt word", () -> x.correct(4, 0), NONE);
        EXPECT.due("correct(6, 0)", () -> x.correct(6, 0), Expect.ILLEGAL_STATE);
        EXPECT.due("correct(4, 3)", () -> x.correct(4, 3), Expect.ILLEGAL_ARGUMENT);
        EXPECT.due("changed(0)", () -> x.changed(0), 3);
        x.spoil(5, 5);
        x.spoil(4, 4);
        EXPECT.due("correct(4, 2) of three", () -> x.correct(4, 2), NONE);
        EXPECT.due("changed(0) still", () -> x.changed(0), 3);
        x.wipe();
        x.put(8, 0L);
        x.check(3);
        EXPECT.due("changed(0) with another word", () -> x.changed(0), 3);
        EXPECT.due("correct(4, 2) of a codeword", () -> x.correct(4, 2), 0);
        EXPECT.due("changed(0) by that", () -> x.changed(0), NONE);
    }

    private static void word15() {
        EXPECT.sentence("The word of 15 bits that belongs to a number. [..] d is not 0 .. 31.");
        FieldCodes x = new FieldCodes();
        EXPECT.due("word15(12)", () -> x.word15(12), Reference.word15(12));
        EXPECT.due("word15(-1)", () -> x.word15(-1), Expect.ILLEGAL_ARGUMENT);
        EXPECT.due("word15(32)", () -> x.word15(32), Expect.ILLEGAL_ARGUMENT);
    }

    private static void read15() {
        EXPECT.sentence("The number whose word of 15 bits differs in no more than three bits");
        FieldCodes x = new FieldCodes();
        for (int d = 0; d < 32; d++) {
            int number = d;
            for (int wrong : new int[] {0, 1 << 14, 0b100000000010000, 0b1110000, 0b100000010000001}) {
                EXPECT.due("read15 of " + d, () -> x.read15(x.word15(number) ^ wrong), d);
            }
        }
        EXPECT.due("read15(-1)", () -> x.read15(-1), Expect.ILLEGAL_ARGUMENT);
        EXPECT.due("read15(32768)", () -> x.read15(32768), Expect.ILLEGAL_ARGUMENT);
    }

    private static void word18() {
        EXPECT.sentence("The word of 18 bits that belongs to a number. [..] d is not 0 .. 63.");
        FieldCodes x = new FieldCodes();
        EXPECT.due("word18(50)", () -> x.word18(50), Reference.word18(50));
        EXPECT.due("word18(-1)", () -> x.word18(-1), Expect.ILLEGAL_ARGUMENT);
        EXPECT.due("word18(64)", () -> x.word18(64), Expect.ILLEGAL_ARGUMENT);
    }

    private static void read18() {
        EXPECT.sentence("The number whose word of 18 bits differs in no more than three bits");
        FieldCodes x = new FieldCodes();
        for (int d = 0; d < 64; d++) {
            int number = d;
            for (int wrong : new int[] {0, 1 << 17, 0b100100000000000001}) {
                EXPECT.due("read18 of " + d, () -> x.read18(x.word18(number) ^ wrong), d);
            }
        }
        EXPECT.due("read18(-1)", () -> x.read18(-1), Expect.ILLEGAL_ARGUMENT);
        EXPECT.due("read18(262144)", () -> x.read18(262144), Expect.ILLEGAL_ARGUMENT);
    }

    /** A codeword that is not made by check(): its last e bytes are solved for. */
    private static int[] codeword(int[] word, int e) {
        int[] places = new int[e];
        for (int j = 0; j < e; j++) {
            places[j] = word.length + j;
        }
        return Reference.solvedAt(Arrays.copyOf(word, word.length + e), e, places);
    }
}
