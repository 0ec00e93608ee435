import java.util.Arrays;

/** Promises 13 and 14: correct, changed. */
public final class CorrectTest {
    private static final Expect EXPECT = new Expect();

    public static void main(String[] args) {
        everyCountAndLimit();
        tooManyWrongBytes();
        againstEverySetOfPlaces();
        oneWrongByteAtEachPlace();
        placesBeyondTheWord();
        anyWordOnFewChecks();
        limitZero();
        changedTellsTheLatest();
        againAndAgain();
        wrongArguments();
        tooShort();
        EXPECT.end();
    }

    private static void everyCountAndLimit() {
        Numbers numbers = new Numbers(13);
        for (int e = 2; e <= 68; e++) {
            for (int m = 0; m <= e / 2; m++) {
                int[] lengths = {1, numbers.between(1, 255 - e), 255 - e};
                for (int length : lengths) {
                    int[] code = codeword(numbers, length, e);
                    putRight(numbers, code, e, m, m);
                    putRight(numbers, code, e, m, numbers.between(0, m));
                }
            }
        }
    }

    private static void putRight(Numbers numbers, int[] code, int e, int m, int count) {
        int[] places = numbers.places(count, code.length);
        FieldCodes x = Words.holding(spoilt(numbers, code, places));
        String told = "correct(" + e + ", " + m + ") of " + code.length + ", wrong at " + count;
        EXPECT.due(told, () -> x.correct(e, m), count);
        EXPECT.holds("the word, " + told, Arrays.equals(Words.bytes(x, code.length), code));
        for (int k = 0; k < count; k++) {
            int index = k;
            EXPECT.due("changed(" + k + "), " + told, () -> x.changed(index), places[k]);
        }
        EXPECT.due("changed behind, " + told, () -> x.changed(count), FieldCodes.NONE);
        EXPECT.due("changed(-1), " + told, () -> x.changed(-1), FieldCodes.NONE);
        EXPECT.due("length, " + told, x::wipe, code.length);
    }

    /** With more than m and at most e - m bytes wrong no codeword at all is near enough. */
    private static void tooManyWrongBytes() {
        Numbers numbers = new Numbers(14);
        for (int e = 2; e <= 68; e++) {
            for (int m = 0; m <= e / 2; m++) {
                if (m + 1 > e - m) {
                    continue;
                }
                int[] code = codeword(numbers, numbers.between(1, 255 - e), e);
                leaveAlone(numbers, code, e, m, m + 1);
                leaveAlone(numbers, code, e, m, numbers.between(m + 1, e - m));
                leaveAlone(numbers, code, e, m, e - m);
            }
        }
    }

    private static void leaveAlone(Numbers numbers, int[] code, int e, int m, int count) {
        int[] word = spoilt(numbers, code, numbers.places(count, code.length));
        FieldCodes x = Words.holding(word);
        String told = "correct(" + e + ", " + m + ") of " + code.length + ", wrong at " + count;
        EXPECT.due(told, () -> x.correct(e, m), FieldCodes.NONE);
        EXPECT.holds("the word, " + told, Arrays.equals(Words.bytes(x, word.length), word));
        EXPECT.due("changed(0), " + told, () -> x.changed(0), FieldCodes.NONE);
        EXPECT.due("length, " + told, x::wipe, word.length);
    }

    /** Words with any number of wrong bytes, some of which are near to another codeword. */
    private static void againstEverySetOfPlaces() {
        Numbers numbers = new Numbers(15);
        for (int round = 0; round < 600; round++) {
            int e = numbers.between(2, 7);
            int m = numbers.between(0, e / 2);
            int length = e + numbers.between(1, m > 2 ? 4 : 10);
            int[] code = codeword(numbers, length - e, e);
            int wrong = numbers.between(0, length);
            int[] word = spoilt(numbers, code, numbers.places(wrong, length));
            sameAsReference(word, e, m);
        }
    }

    private static void sameAsReference(int[] word, int e, int m) {
        int[] due = Reference.near(word, e, m);
        FieldCodes x = Words.holding(word);
        String told = "correct(" + e + ", " + m + ") of " + Arrays.toString(word);
        EXPECT.due(told, () -> x.correct(e, m), due == null ? FieldCodes.NONE : differing(due, word));
        EXPECT.holds("the word, " + told,
            Arrays.equals(Words.bytes(x, word.length), due == null ? word : due));
        int index = 0;
        for (int i = 0; i < word.length && due != null; i++) {
            if (due[i] != word[i]) {
                int k = index++;
                EXPECT.due("changed(" + k + "), " + told, () -> x.changed(k), i);
            }
        }
        int last = index;
        EXPECT.due("changed(" + last + "), " + told, () -> x.changed(last), FieldCodes.NONE);
    }

    private static void oneWrongByteAtEachPlace() {
        Numbers numbers = new Numbers(16);
        for (int e : new int[] {2, 3, 10, 68}) {
            int[] code = codeword(numbers, 255 - e, e);
            for (int i = 0; i < 255; i++) {
                int place = i;
                int v = numbers.between(1, 255);
                FieldCodes x = Words.holding(code);
                x.spoil(place, v);
                EXPECT.due("correct(" + e + ", 1) at " + i, () -> x.correct(e, 1), 1);
                EXPECT.due("changed(0)", () -> x.changed(0), i);
                EXPECT.due("at(" + i + ")", () -> x.at(place), code[i]);
                EXPECT.due("isCode(" + e + ")", () -> x.isCode(e) ? 1 : 0, 1);
            }
        }
    }

    /** Values as of a wrong byte before the word's first: in a word this short there is none. */
    private static void placesBeyondTheWord() {
        Numbers numbers = new Numbers(17);
        for (int e : new int[] {2, 3, 4, 6}) {
            for (int count = 1; count <= e / 2; count++) {
                int limit = count;
                int[] longer = new int[60];
                longer[3] = numbers.between(1, 255);
                for (int k = 1; k < count; k++) {
                    longer[59 - k] = numbers.between(1, 255);
                }
                int[] word = withValuesOf(longer, 20, e);
                FieldCodes x = Words.holding(word);
                EXPECT.due("correct(" + e + ", " + count + "), place beyond the word",
                    () -> x.correct(e, limit), FieldCodes.NONE);
                EXPECT.holds("the word stays", Arrays.equals(Words.bytes(x, 20), word));
            }
        }
    }

    /** A word of a length whose values at the first e powers of 2 are those of another word. */
    private static int[] withValuesOf(int[] longer, int length, int e) {
        int[] rest = longer.clone();
        int[] generator = {1};
        for (int k = 0; k < e; k++) {
            generator = Reference.wordProduct(generator, new int[] {1, Reference.power(k)});
        }
        for (int i = 0; i + e < rest.length; i++) {
            int lead = rest[i];
            for (int j = 0; j <= e; j++) {
                rest[i + j] ^= Reference.product(lead, generator[j]);
            }
        }
        return Arrays.copyOfRange(rest, rest.length - length, rest.length);
    }

    /** Words that come from no codeword, of which many are near to one by chance. */
    private static void anyWordOnFewChecks() {
        Numbers numbers = new Numbers(18);
        for (int round = 0; round < 300; round++) {
            int[] word = Words.random(numbers, numbers.between(4, 40));
            sameAsReference(word, 2, 1);
            sameAsReference(word, 3, 1);
        }
        int[] longest = Words.random(numbers, 255);
        sameAsReference(longest, 2, 1);
    }

    private static void limitZero() {
        int[] code = codeword(new Numbers(19), 9, 5);
        FieldCodes x = Words.holding(code);
        EXPECT.due("correct(5, 0) of a codeword", () -> x.correct(5, 0), 0);
        x.spoil(2, 1);
        EXPECT.due("correct(5, 0) of a spoilt one", () -> x.correct(5, 0), FieldCodes.NONE);
        EXPECT.due("at(2)", () -> x.at(2), code[2] ^ 1);
        EXPECT.due("correct(5, 1)", () -> x.correct(5, 1), 1);
        EXPECT.due("changed(0)", () -> x.changed(0), 2);
        EXPECT.due("correct(5, 2) of a codeword", () -> x.correct(5, 2), 0);
        EXPECT.due("changed(0) after 0 places", () -> x.changed(0), FieldCodes.NONE);
    }

    private static void changedTellsTheLatest() {
        int[] code = codeword(new Numbers(20), 30, 6);
        FieldCodes x = Words.holding(code);
        x.spoil(35, 7);
        x.spoil(0, 7);
        x.spoil(20, 7);
        EXPECT.due("correct(6, 3)", () -> x.correct(6, 3), 3);
        changedAre(x, "three places", 0, 20, 35);
        x.spoil(1, 1);
        x.spoil(2, 2);
        EXPECT.due("correct(6, 1) of two", () -> x.correct(6, 1), FieldCodes.NONE);
        changedAre(x, "after NONE", 0, 20, 35);
        EXPECT.due("correct(1, 0)", () -> x.correct(1, 0), Expect.ILLEGAL_ARGUMENT);
        EXPECT.due("correct(36, 4)", () -> x.correct(36, 4), Expect.ILLEGAL_STATE);
        changedAre(x, "after throws", 0, 20, 35);
        x.put(8, 1);
        changedAre(x, "after put", 0, 20, 35);
        x.wipe();
        changedAre(x, "after wipe", 0, 20, 35);
        Words.put(x, code);
        x.check(9);
        changedAre(x, "after check", 0, 20, 35);
        x.spoil(44, 255);
        EXPECT.due("correct(9, 4)", () -> x.correct(9, 4), 1);
        changedAre(x, "one place", 44);
    }

    private static void changedAre(FieldCodes x, String told, int... places) {
        for (int k = 0; k < places.length; k++) {
            int index = k;
            EXPECT.due("changed(" + k + "), " + told, () -> x.changed(index), places[k]);
        }
        for (int i : new int[] {-1, places.length, 34, 255, Integer.MIN_VALUE, Integer.MAX_VALUE}) {
            EXPECT.due("changed(" + i + "), " + told, () -> x.changed(i), FieldCodes.NONE);
        }
    }

    /** One object for many words, as rows that it uses again must not tell of the word before. */
    private static void againAndAgain() {
        for (int seed = 0; seed < 60; seed++) {
            Numbers numbers = new Numbers(seed);
            int[] code = codeword(numbers, numbers.between(1, 187), 68);
            FieldCodes x = Words.holding(code);
            int calls = code.length / 8 + 1 + code.length;
            while (calls < 400) {
                int e = numbers.between(2, 68);
                int[] places = numbers.places(numbers.between(0, Math.min(e, 25)), code.length);
                calls += places.length * 3 + 1;
                spoilAndCorrect(numbers, x, e, places);
            }
            EXPECT.holds("the word, again and again",
                Arrays.equals(Words.bytes(x, code.length), code));
        }
    }

    /** A codeword with 68 check bytes is one with fewer too, so that e may change. */
    private static void spoilAndCorrect(Numbers numbers, FieldCodes x, int e, int[] places) {
        int[] amounts = new int[places.length];
        for (int k = 0; k < places.length; k++) {
            amounts[k] = numbers.between(1, 255);
            x.spoil(places[k], amounts[k]);
        }
        int m = Math.min(e / 2, e - places.length);
        boolean near = places.length <= m;
        EXPECT.due("correct(" + e + ", " + m + ") again, wrong at " + places.length,
            () -> x.correct(e, m), near ? places.length : FieldCodes.NONE);
        for (int k = 0; k < places.length; k++) {
            int index = k;
            if (near) {
                EXPECT.due("changed(" + k + ") again", () -> x.changed(index), places[k]);
            } else {
                x.spoil(places[k], amounts[k]);
            }
        }
    }

    private static void wrongArguments() {
        String want = Expect.ILLEGAL_ARGUMENT;
        for (int length : new int[] {0, 1, 68, 69, 255}) {
            int[] word = Words.random(new Numbers(length), length);
            FieldCodes x = Words.holding(word);
            for (int e : new int[] {1, 0, -1, 69, 70, 255, Integer.MIN_VALUE, Integer.MAX_VALUE}) {
                EXPECT.due("correct(" + e + ", 0)", () -> x.correct(e, 0), want);
            }
            for (int e = 2; e <= 68; e++) {
                int count = e;
                int above = e / 2 + 1;
                EXPECT.due("correct(" + e + ", -1)", () -> x.correct(count, -1), want);
                EXPECT.due("correct(" + e + ", " + above + ")", () -> x.correct(count, above), want);
            }
            for (int m : new int[] {Integer.MIN_VALUE, Integer.MAX_VALUE, 1 << 30, (1 << 30) + 1,
                -(1 << 30)}) {
                EXPECT.due("correct(10, " + m + ")", () -> x.correct(10, m), want);
            }
            EXPECT.holds("the word stays", Arrays.equals(Words.bytes(x, length), word));
        }
    }

    private static void tooShort() {
        for (int e = 2; e <= 68; e++) {
            int count = e;
            FieldCodes x = new FieldCodes();
            EXPECT.due("correct(" + e + ", 0) empty", () -> x.correct(count, 0), Expect.ILLEGAL_STATE);
            Words.put(x, new int[e]);
            EXPECT.due("correct(" + e + ", 1) of e", () -> x.correct(count, 1), Expect.ILLEGAL_STATE);
            x.put(1, 5);
            EXPECT.due("correct(" + e + ", 1) of e + 1", () -> x.correct(count, 1), 1);
            EXPECT.due("changed(0)", () -> x.changed(0), e);
        }
    }

    /** Made by elimination, not by check(). */
    private static int[] codeword(Numbers numbers, int length, int e) {
        int[] word = Arrays.copyOf(Words.random(numbers, length), length + e);
        int[] rest = withValuesOf(word, e, e);
        System.arraycopy(rest, 0, word, length, e);
        return word;
    }

    private static int[] spoilt(Numbers numbers, int[] code, int[] places) {
        int[] word = code.clone();
        for (int place : places) {
            word[place] ^= numbers.between(1, 255);
        }
        return word;
    }

    private static int differing(int[] a, int[] b) {
        int count = 0;
        for (int i = 0; i < a.length; i++) {
            count += a[i] == b[i] ? 0 : 1;
        }
        return count;
    }
}
