import java.util.Arrays;

/**
 * Promises 13 and 14 for words of every kind and length, many of them near to another codeword than
 * the one they come from, or to none: against elimination, which has nothing in common with the
 * steps of the class.
 */
public final class AnyWordTest {
    private static final Expect EXPECT = new Expect();
    private static final Numbers NUMBERS = new Numbers(31);

    public static void main(String[] args) {
        theTwoReferencesAgree();
        fewChecks();
        fewDataBytes();
        everyCountAndLength();
        valuesThatAreZero();
        wrongBytesWithValuesOfZero();
        EXPECT.end();
    }

    private static void theTwoReferencesAgree() {
        for (int round = 0; round < 300; round++) {
            int e = NUMBERS.between(2, 6);
            int m = NUMBERS.between(0, e / 2);
            int[] word = Words.random(NUMBERS, e + NUMBERS.between(1, 5));
            EXPECT.holds("one answer for " + Arrays.toString(word), Arrays.equals(
                Reference.near(word, e, m), Reference.nearByRecurrence(word, e, m)));
        }
    }

    /** A random word is near to a codeword in one case of m! or so, if it is as long as can be. */
    private static void fewChecks() {
        for (int round = 0; round < 4000; round++) {
            int e = NUMBERS.between(2, 9);
            int length = round % 2 == 0 ? NUMBERS.between(200, 255) : NUMBERS.between(e + 1, 255);
            compare(Words.random(NUMBERS, length), e, e / 2);
        }
    }

    private static void fewDataBytes() {
        for (int round = 0; round < 4000; round++) {
            int e = NUMBERS.between(2, 16);
            int[] word = new int[e + NUMBERS.between(1, 3)];
            for (int place : NUMBERS.places(NUMBERS.between(0, word.length), word.length)) {
                word[place] = NUMBERS.between(1, 255);
            }
            compare(word, e, NUMBERS.between(0, e / 2));
        }
    }

    /** Zeros are a codeword with any e, so that as many bytes are wrong as are not 0. */
    private static void everyCountAndLength() {
        for (int e = 2; e <= 68; e++) {
            for (int round = 0; round < 24; round++) {
                int[] word = new int[NUMBERS.between(e + 1, 255)];
                int wrong = NUMBERS.between(0, Math.min(word.length, e));
                for (int place : NUMBERS.places(wrong, word.length)) {
                    word[place] = NUMBERS.between(1, 255);
                }
                compare(word, e, round % 2 == 0 ? e / 2 : NUMBERS.between(0, e / 2));
            }
        }
    }

    /** The first, the last or every other value is 0, and the search has to take longer steps. */
    private static void valuesThatAreZero() {
        for (int e = 4; e <= 68; e += 4) {
            for (int step = 1; step <= 8; step++) {
                int[] word = {1};
                for (int k = 0; k < e - 1; k++) {
                    if (k % step == 0 || k < e / 2) {
                        word = Reference.wordProduct(word, new int[] {1, Reference.power(k)});
                    }
                }
                int[] high = Arrays.copyOf(word, Math.max(word.length, e + 1));
                int[] low = new int[high.length];
                System.arraycopy(word, 0, low, low.length - word.length, word.length);
                compare(high, e, e / 2);
                compare(low, e, e / 2);
            }
        }
    }

    /** As many wrong bytes as may be, whose first values are all 0 but for the last that must not. */
    private static void wrongBytesWithValuesOfZero() {
        for (int m = 1; m <= 34; m++) {
            int[] wrong = {NUMBERS.between(1, 255)};
            for (int k = 0; k < m - 1; k++) {
                wrong = Reference.wordProduct(wrong, new int[] {1, Reference.power(k)});
            }
            for (int behind : new int[] {0, m + 1, 255 - m}) {
                int[] word = new int[Math.max(2 * m + 1, m + behind)];
                System.arraycopy(wrong, 0, word, word.length - m - behind, m);
                compare(word, 2 * m, m);
                compare(word, 2 * m, m - 1);
            }
        }
    }

    private static void compare(int[] word, int e, int m) {
        int[] due = Reference.nearByRecurrence(word, e, m);
        int[] after = due == null ? word : due;
        FieldCodes x = Words.holding(word);
        String told = "correct(" + e + ", " + m + ") of " + Arrays.toString(word);
        int[] places = new int[word.length];
        int count = 0;
        for (int i = 0; i < word.length; i++) {
            if (after[i] != word[i]) {
                places[count++] = i;
            }
        }
        EXPECT.due(told, () -> x.correct(e, m), due == null ? FieldCodes.NONE : count);
        EXPECT.holds("the word after " + told, Arrays.equals(Words.bytes(x, word.length), after));
        for (int k = 0; k < count; k++) {
            int index = k;
            EXPECT.due("changed(" + k + ") after " + told, () -> x.changed(index), places[k]);
        }
        int end = count;
        EXPECT.due("changed(" + end + ") after " + told, () -> x.changed(end), FieldCodes.NONE);
    }
}
