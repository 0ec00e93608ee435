/** Promises 1 and 6 to 10: a new object, put, wipe, at, spoil, value. */
public final class WordTest {
    private static final Expect EXPECT = new Expect();

    public static void main(String[] args) {
        newObject();
        putsOfEachSize();
        putsThatAreWrong();
        putsToTheBrim();
        wipes();
        spoils();
        values();
        EXPECT.end();
    }

    private static void newObject() {
        FieldCodes x = new FieldCodes();
        for (int i : new int[] {-1, 0, 1, 254, 255, Integer.MIN_VALUE, Integer.MAX_VALUE}) {
            EXPECT.due("new at(" + i + ")", () -> x.at(i), FieldCodes.NONE);
            EXPECT.due("new changed(" + i + ")", () -> x.changed(i), FieldCodes.NONE);
            EXPECT.due("new spoil(" + i + ", 1)", () -> x.spoil(i, 1), Expect.OUT_OF_BOUNDS);
        }
        for (int a : new int[] {0, 1, 2, 255}) {
            EXPECT.due("new value(" + a + ")", () -> x.value(a), 0);
        }
        EXPECT.due("new isCode(2)", () -> x.isCode(2) ? 1 : 0, 0);
        EXPECT.due("new check(2)", () -> x.check(2), Expect.ILLEGAL_STATE);
        EXPECT.due("new correct(2, 0)", () -> x.correct(2, 0), Expect.ILLEGAL_STATE);
        EXPECT.due("new wipe()", x::wipe, 0);
        EXPECT.due("first put", () -> x.put(1, 7), 1);
        FieldCodes y = new FieldCodes();
        EXPECT.due("another object's at(0)", () -> y.at(0), FieldCodes.NONE);
    }

    private static void putsOfEachSize() {
        long bytes = 0xF1E2D3C4B5A69788L;
        for (int n = 1; n <= 8; n++) {
            FieldCodes x = new FieldCodes();
            int count = n;
            EXPECT.due("put(" + n + ")", () -> x.put(count, bytes), n);
            EXPECT.due("second put(" + n + ")", () -> x.put(count, ~bytes), 2 * n);
            for (int k = 0; k < n; k++) {
                int first = k;
                int second = n + k;
                long due = bytes >>> (8 * k) & 255;
                EXPECT.due("at(" + first + ") of puts of " + n, () -> x.at(first), due);
                EXPECT.due("at(" + second + ") of puts of " + n, () -> x.at(second), 255 - due);
            }
            EXPECT.due("at behind the word", () -> x.at(2 * count), FieldCodes.NONE);
            EXPECT.due("at before the word", () -> x.at(-1), FieldCodes.NONE);
        }
    }

    private static void putsThatAreWrong() {
        FieldCodes x = new FieldCodes();
        int[] sizes = {0, -1, 9, 10, 16, 255, 256, Integer.MIN_VALUE, Integer.MAX_VALUE};
        for (int n : sizes) {
            EXPECT.due("put(" + n + ")", () -> x.put(n, -1L), Expect.ILLEGAL_ARGUMENT);
        }
        fill(x, 255);
        for (int n : sizes) {
            EXPECT.due("put(" + n + ") when full", () -> x.put(n, -1L), Expect.ILLEGAL_ARGUMENT);
        }
        EXPECT.due("wipe() after wrong puts", x::wipe, 255);
    }

    private static void putsToTheBrim() {
        for (int n = 1; n <= 8; n++) {
            int count = n;
            FieldCodes x = new FieldCodes();
            fill(x, 255 - n + 1);
            EXPECT.due("put(" + n + ") past 255", () -> x.put(count, 0x5555555555555555L),
                FieldCodes.NONE);
            EXPECT.due("at(255 - n + 1)", () -> x.at(255 - count + 1), FieldCodes.NONE);
            FieldCodes y = new FieldCodes();
            fill(y, 255 - n);
            EXPECT.due("put(" + n + ") up to 255", () -> y.put(count, 0x5555555555555555L), 255);
            EXPECT.due("at(254)", () -> y.at(254), 0x55);
            EXPECT.due("at(255)", () -> y.at(255), FieldCodes.NONE);
            EXPECT.due("put(1) on 255", () -> y.put(1, 1), FieldCodes.NONE);
            EXPECT.due("wipe()", y::wipe, 255);
        }
    }

    private static void wipes() {
        FieldCodes x = new FieldCodes();
        fill(x, 20);
        x.check(4);
        x.spoil(3, 9);
        x.spoil(11, 200);
        EXPECT.due("correct before wipe", () -> x.correct(4, 2), 2);
        EXPECT.due("wipe()", x::wipe, 24);
        EXPECT.due("wipe() again", x::wipe, 0);
        EXPECT.due("at(0) after wipe", () -> x.at(0), FieldCodes.NONE);
        EXPECT.due("value(1) after wipe", () -> x.value(1), 0);
        EXPECT.due("spoil(0, 1) after wipe", () -> x.spoil(0, 1), Expect.OUT_OF_BOUNDS);
        EXPECT.due("changed(0) after wipe", () -> x.changed(0), 3);
        EXPECT.due("changed(1) after wipe", () -> x.changed(1), 11);
        EXPECT.due("changed(2) after wipe", () -> x.changed(2), FieldCodes.NONE);
        EXPECT.due("put after wipe", () -> x.put(2, 0x0605), 2);
        EXPECT.due("at(0) of the new word", () -> x.at(0), 5);
        EXPECT.due("at(1) of the new word", () -> x.at(1), 6);
        EXPECT.due("at(2) of the new word", () -> x.at(2), FieldCodes.NONE);
    }

    private static void spoils() {
        FieldCodes x = new FieldCodes();
        x.put(3, 0xC80A01);
        EXPECT.due("spoil(0, 0)", () -> x.spoil(0, 0), 1);
        EXPECT.due("spoil(1, 3)", () -> x.spoil(1, 3), 9);
        EXPECT.due("spoil(2, 255)", () -> x.spoil(2, 255), 55);
        EXPECT.due("at(1)", () -> x.at(1), 9);
        EXPECT.due("at(2)", () -> x.at(2), 55);
        EXPECT.due("spoil(1, 3) again", () -> x.spoil(1, 3), 10);
        for (int v : new int[] {-1, 256, Integer.MIN_VALUE, Integer.MAX_VALUE}) {
            EXPECT.due("spoil(0, " + v + ")", () -> x.spoil(0, v), Expect.ILLEGAL_ARGUMENT);
            EXPECT.due("spoil(3, " + v + ")", () -> x.spoil(3, v), Expect.ILLEGAL_ARGUMENT);
        }
        for (int i : new int[] {-1, 3, 254, 255, 256, Integer.MIN_VALUE, Integer.MAX_VALUE}) {
            EXPECT.due("spoil(" + i + ", 1)", () -> x.spoil(i, 1), Expect.OUT_OF_BOUNDS);
            EXPECT.due("spoil(" + i + ", 0)", () -> x.spoil(i, 0), Expect.OUT_OF_BOUNDS);
        }
        int[] due = {1, 10, 55};
        for (int i = 0; i < 3; i++) {
            int place = i;
            EXPECT.due("at(" + i + ") after wrong spoils", () -> x.at(place), due[i]);
        }
    }

    private static void values() {
        Numbers numbers = new Numbers(10);
        for (int length : new int[] {1, 2, 3, 8, 9, 68, 200, 254, 255}) {
            FieldCodes x = new FieldCodes();
            int[] word = Words.random(numbers, length);
            Words.put(x, word);
            for (int a = 0; a < 256; a++) {
                int element = a;
                EXPECT.due("value(" + a + ") of " + length + " bytes", () -> x.value(element),
                    Reference.value(word, a));
            }
        }
        FieldCodes x = new FieldCodes();
        EXPECT.due("value(256) of no bytes", () -> x.value(256), Expect.ILLEGAL_ARGUMENT);
        x.put(2, 0x0201);
        for (int a : new int[] {-1, 256, Integer.MIN_VALUE, Integer.MAX_VALUE}) {
            EXPECT.due("value(" + a + ")", () -> x.value(a), Expect.ILLEGAL_ARGUMENT);
        }
    }

    private static void fill(FieldCodes x, int length) {
        Words.put(x, Words.random(new Numbers(length), length));
    }
}
