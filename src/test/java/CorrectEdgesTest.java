import java.util.Arrays;

/** The boundary cases of promises 13 and 14, a method for each sentence of the document. */
public final class CorrectEdgesTest {
    private static final Expect EXPECT = new Expect();
    private static final int NONE = FieldCodes.NONE;

    public static void main(String[] args) {
        codewordsStay();
        oneWrongByte();
        asManyAsTheLimit();
        oneMoreThanTheLimit();
        limitOfZero();
        shortestWords();
        longestWords();
        anotherCodewordIsNear();
        noCodewordIsNear();
        codewordOfThisLengthAlone();
        countsThatAreWrong();
        limitsThatAreWrong();
        limitsAtTheEndsOfInt();
        wordsThatAreTooShort();
        argumentsBeforeTheState();
        nothingWasPutRight();
        placesByRisingNumbers();
        noPlaceBeyondTheLast();
        latestThatFoundOne();
        latestWithoutPlaces();
        notByNoneOrThrow();
        notByNoneWithPlacesFound();
        whateverBecameOfTheWord();
        EXPECT.end();
    }

    private static void codewordsStay() {
        EXPECT.sentence("The word becomes the codeword [..]: at how many (0)");
        for (int e : new int[] {2, 3, 10, 67, 68}) {
            for (int m : new int[] {0, 1, e / 2}) {
                for (int length : new int[] {1, 255 - e}) {
                    int[] code = codeword(length, e);
                    FieldCodes x = Words.holding(code);
                    EXPECT.due("correct(" + e + ", " + m + ")", () -> x.correct(e, m), 0);
                    EXPECT.due("changed(0)", () -> x.changed(0), NONE);
                    EXPECT.word(x, code);
                }
            }
        }
    }

    private static void oneWrongByte() {
        EXPECT.sentence("The word becomes the codeword with e check bytes from which it differs");
        int[] code = {1, 3, 2};
        for (int place = 0; place < 3; place++) {
            for (int v : new int[] {1, 2, 128, 255}) {
                int wrong = place;
                FieldCodes x = Words.holding(code);
                x.spoil(place, v);
                EXPECT.due("correct(2, 1)", () -> x.correct(2, 1), 1);
                EXPECT.due("changed(0)", () -> x.changed(0), wrong);
                EXPECT.due("isCode(2)", () -> x.isCode(2) ? 1 : 0, 1);
                EXPECT.word(x, code);
                EXPECT.due("correct(2, 1) again", () -> x.correct(2, 1), 0);
            }
        }
    }

    private static void asManyAsTheLimit() {
        EXPECT.sentence("at no more than m places");
        for (int e = 2; e <= 68; e++) {
            int m = e / 2;
            int count = e;
            for (int length : new int[] {1, 255 - e}) {
                int[] code = codeword(length, e);
                int[][] rows = {first(m), last(m, code.length), spread(m, code.length)};
                for (int[] places : rows) {
                    FieldCodes x = Words.holding(spoilt(code, places));
                    EXPECT.due("correct(" + e + ", " + m + ")", () -> x.correct(count, m), m);
                    placesAre(x, places);
                    EXPECT.word(x, code);
                }
            }
        }
    }

    /** More than e places part two codewords, so that no other one is within m places either. */
    private static void oneMoreThanTheLimit() {
        EXPECT.sentence("NONE when there is none such (m + 1 places)");
        for (int e = 3; e <= 68; e++) {
            int count = e;
            for (int m : new int[] {0, 1, (e - 1) / 2}) {
                for (int length : new int[] {1, 255 - e}) {
                    int[] code = codeword(length, e);
                    int[] word = spoilt(code, spread(m + 1, code.length));
                    FieldCodes x = Words.holding(word);
                    EXPECT.due("correct(" + e + ", " + m + ")", () -> x.correct(count, m), NONE);
                    EXPECT.due("changed(0)", () -> x.changed(0), NONE);
                    EXPECT.word(x, word);
                }
            }
        }
    }

    private static void limitOfZero() {
        EXPECT.sentence("m is below 0 (and 0 is not)");
        for (int e : new int[] {2, 3, 68}) {
            FieldCodes x = Words.holding(codeword(4, e));
            EXPECT.due("correct(" + e + ", 0)", () -> x.correct(e, 0), 0);
            x.spoil(1, 255);
            EXPECT.due("correct(" + e + ", 0), one wrong", () -> x.correct(e, 0), NONE);
            EXPECT.due("correct(" + e + ", 1), one wrong", () -> x.correct(e, 1), 1);
            EXPECT.due("correct(" + e + ", 0), put right", () -> x.correct(e, 0), 0);
        }
    }

    private static void shortestWords() {
        EXPECT.sentence("IllegalStateException: the word is not longer than e. (e + 1 is longer)");
        for (int e = 2; e <= 68; e++) {
            int count = e;
            FieldCodes x = Words.holding(new int[e + 1]);
            EXPECT.due("correct(" + e + ", 0) of zeros", () -> x.correct(count, 0), 0);
            x.spoil(0, 9);
            EXPECT.due("correct(" + e + ", 1) at the first", () -> x.correct(count, 1), 1);
            placesAre(x, 0);
            x.spoil(e, 9);
            EXPECT.due("correct(" + e + ", 1) at the last", () -> x.correct(count, 1), 1);
            placesAre(x, e);
            EXPECT.word(x, new int[e + 1]);
        }
    }

    private static void longestWords() {
        EXPECT.sentence("THE WORD is a row of up to 255 bytes (correct)");
        for (int e : new int[] {2, 3, 67, 68}) {
            for (int place : new int[] {0, 1, 127, 254 - e, 255 - e, 253, 254}) {
                for (int v : new int[] {1, 255}) {
                    int[] code = codeword(255 - e, e);
                    FieldCodes x = Words.holding(code);
                    x.spoil(place, v);
                    EXPECT.due("correct(" + e + ", " + e / 2 + ")", () -> x.correct(e, e / 2), 1);
                    placesAre(x, place);
                    EXPECT.word(x, code);
                }
            }
        }
    }

    /** 1 3 2 and 0 0 0 are codewords: 1 0 0 is nearer to the second, 1 3 0 nearer to the first. */
    private static void anotherCodewordIsNear() {
        EXPECT.sentence("there is at most one codeword of its length from which it differs");
        FieldCodes x = Words.holding(1, 3, 2);
        x.spoil(1, 3);
        x.spoil(2, 2);
        EXPECT.due("correct(2, 1) of 1 0 0", () -> x.correct(2, 1), 1);
        placesAre(x, 0);
        EXPECT.word(x, 0, 0, 0);
        FieldCodes y = Words.holding(0, 0, 0);
        y.spoil(0, 1);
        y.spoil(1, 3);
        EXPECT.due("correct(2, 1) of 1 3 0", () -> y.correct(2, 1), 1);
        placesAre(y, 2);
        EXPECT.word(y, 1, 3, 2);
    }

    /** Values of 0 at one of the two elements alone: no single byte can be wrong so. */
    private static void noCodewordIsNear() {
        EXPECT.sentence("NONE when there is none such");
        for (int[] word : new int[][] {{0, 1, 1}, {0, 1, 2}, {0, 0, 0, 9, 9}, {0, 0, 0, 5, 10}}) {
            FieldCodes x = Words.holding(word);
            EXPECT.due("correct(2, 1)", () -> x.correct(2, 1), NONE);
            EXPECT.due("correct(2, 0)", () -> x.correct(2, 0), NONE);
            EXPECT.due("changed(0)", () -> x.changed(0), NONE);
            EXPECT.word(x, word);
        }
    }

    /** 1 0 7 6 is a codeword; a word of three bytes has no place for the 1. */
    private static void codewordOfThisLengthAlone() {
        EXPECT.sentence("Two words of one length DIFFER");
        FieldCodes x = Words.holding(0, 7, 6);
        EXPECT.due("correct(2, 1) of 0 7 6", () -> x.correct(2, 1), NONE);
        EXPECT.word(x, 0, 7, 6);
        FieldCodes y = Words.holding(0, 0, 7, 6);
        EXPECT.due("correct(2, 1) of 0 0 7 6", () -> y.correct(2, 1), 1);
        placesAre(y, 0);
        EXPECT.word(y, 1, 0, 7, 6);
        FieldCodes z = Words.holding(0, 0, 0, 7, 6);
        EXPECT.due("correct(2, 1) of 0 0 0 7 6", () -> z.correct(2, 1), 1);
        placesAre(z, 1);
        EXPECT.word(z, 0, 1, 0, 7, 6);
        EXPECT.due("correct(2, 1) of the word of 254", () -> beforeTheFirst(254), NONE);
        EXPECT.due("correct(2, 1) of the word of 100", () -> beforeTheFirst(100), NONE);
    }

    /** A word with the values of a wrong byte one place before its first, which is not there. */
    private static long beforeTheFirst(int length) {
        FieldCodes x = Words.holding(new int[length]);
        int high = Reference.power(length);
        int next = Reference.quotient(high ^ 1, 3);
        x.spoil(length - 2, next);
        x.spoil(length - 1, next ^ 1);
        EXPECT.due("value(1)", () -> x.value(1), 1);
        EXPECT.due("value(2)", () -> x.value(2), high);
        return x.correct(2, 1);
    }

    private static void countsThatAreWrong() {
        EXPECT.sentence("IllegalArgumentException: e is not 2 .. 68 (correct)");
        int[] word = Words.random(new Numbers(5), 200);
        FieldCodes x = Words.holding(word);
        for (int e : new int[] {1, 0, -1, -2, -68, 69, 70, 136, 255, 256, Integer.MIN_VALUE,
            Integer.MAX_VALUE}) {
            for (int m : new int[] {0, 1, -1, 34}) {
                EXPECT.due("correct(" + e + ", " + m + ")", () -> x.correct(e, m),
                    Expect.ILLEGAL_ARGUMENT);
            }
        }
        EXPECT.word(x, word);
        FieldCodes y = Words.holding(new int[200]);
        EXPECT.due("correct(2, 1)", () -> y.correct(2, 1), 0);
        EXPECT.due("correct(68, 34)", () -> y.correct(68, 34), 0);
    }

    private static void limitsThatAreWrong() {
        EXPECT.sentence("or m is below 0 or 2 m above e");
        FieldCodes x = Words.holding(new int[100]);
        for (int e = 2; e <= 68; e++) {
            int count = e;
            int most = e / 2;
            EXPECT.due("correct(" + e + ", -1)", () -> x.correct(count, -1),
                Expect.ILLEGAL_ARGUMENT);
            EXPECT.due("correct(" + e + ", 0)", () -> x.correct(count, 0), 0);
            EXPECT.due("correct(" + e + ", " + most + ")", () -> x.correct(count, most), 0);
            EXPECT.due("correct(" + e + ", " + (most + 1) + ")", () -> x.correct(count, most + 1),
                Expect.ILLEGAL_ARGUMENT);
            EXPECT.due("correct(" + e + ", " + e + ")", () -> x.correct(count, count),
                Expect.ILLEGAL_ARGUMENT);
        }
    }

    /** Twice each of these is within 0 .. e, or below 0, when it has come round. */
    private static void limitsAtTheEndsOfInt() {
        EXPECT.sentence("2 m above e (where 2 m is no int)");
        FieldCodes x = Words.holding(new int[100]);
        for (int m : new int[] {1 << 30, (1 << 30) + 1, Integer.MAX_VALUE, Integer.MAX_VALUE - 1,
            Integer.MIN_VALUE, Integer.MIN_VALUE + 1, -(1 << 30)}) {
            for (int e : new int[] {2, 3, 68}) {
                EXPECT.due("correct(" + e + ", " + m + ")", () -> x.correct(e, m),
                    Expect.ILLEGAL_ARGUMENT);
            }
        }
    }

    private static void wordsThatAreTooShort() {
        EXPECT.sentence("IllegalStateException: the word is not longer than e.");
        for (int e = 2; e <= 68; e++) {
            int count = e;
            for (int length : new int[] {0, 1, e - 1, e}) {
                int[] word = Words.random(new Numbers(e), length);
                FieldCodes x = Words.holding(word);
                for (int m : new int[] {0, 1, e / 2}) {
                    EXPECT.due("correct(" + e + ", " + m + ") of " + length,
                        () -> x.correct(count, m), Expect.ILLEGAL_STATE);
                }
                EXPECT.word(x, word);
            }
        }
    }

    private static void argumentsBeforeTheState() {
        EXPECT.sentence("the one named first when several would do (correct)");
        for (int length : new int[] {0, 1, 2, 68}) {
            FieldCodes x = Words.holding(new int[length]);
            for (int e : new int[] {1, 69, Integer.MIN_VALUE, Integer.MAX_VALUE}) {
                EXPECT.due("correct(" + e + ", 0) of " + length, () -> x.correct(e, 0),
                    Expect.ILLEGAL_ARGUMENT);
            }
            for (int m : new int[] {-1, 35, Integer.MIN_VALUE, Integer.MAX_VALUE, 1 << 30}) {
                EXPECT.due("correct(68, " + m + ") of " + length, () -> x.correct(68, m),
                    Expect.ILLEGAL_ARGUMENT);
            }
        }
    }

    private static void nothingWasPutRight() {
        EXPECT.sentence("NONE when there are fewer, or there was none such. (none such)");
        FieldCodes x = Words.holding(0, 1, 1);
        placesAre(x);
        EXPECT.due("correct(2, 1)", () -> x.correct(2, 1), NONE);
        placesAre(x);
        EXPECT.due("correct(3, 1)", () -> x.correct(3, 1), Expect.ILLEGAL_STATE);
        EXPECT.due("correct(1, 1)", () -> x.correct(1, 1), Expect.ILLEGAL_ARGUMENT);
        placesAre(x);
    }

    private static void placesByRisingNumbers() {
        EXPECT.sentence("The i-th place (from 0), by rising numbers");
        FieldCodes x = Words.holding(new int[255]);
        int[] places = spread(34, 255);
        for (int k = places.length - 1; k >= 0; k--) {
            x.spoil(places[k], 255 - k);
        }
        EXPECT.due("correct(68, 34)", () -> x.correct(68, 34), 34);
        placesAre(x, places);
    }

    private static void noPlaceBeyondTheLast() {
        EXPECT.sentence("NONE when there are fewer");
        for (int count = 0; count <= 34; count++) {
            int places = count;
            FieldCodes x = Words.holding(spoilt(new int[90], last(count, 90)));
            EXPECT.due("correct(68, 34)", () -> x.correct(68, 34), places);
            if (count > 0) {
                EXPECT.due("changed(" + (count - 1) + ")", () -> x.changed(places - 1), 89);
                EXPECT.due("changed(0)", () -> x.changed(0), 90 - places);
            }
            for (int i : new int[] {-1, -2, count, count + 1, 34, 35, 255, Integer.MIN_VALUE,
                Integer.MAX_VALUE}) {
                EXPECT.due("changed(" + i + ") of " + count, () -> x.changed(i), NONE);
            }
        }
    }

    private static void latestThatFoundOne() {
        EXPECT.sentence("changed by the latest correct()");
        FieldCodes x = Words.holding(new int[30]);
        for (int[] places : new int[][] {{3, 7, 29}, {0}, {1, 2}, {}, {5, 6, 7}, {28}}) {
            for (int place : places) {
                x.spoil(place, 40 + place);
            }
            EXPECT.due("correct(6, 3)", () -> x.correct(6, 3), places.length);
            placesAre(x, places);
        }
    }

    private static void latestWithoutPlaces() {
        EXPECT.sentence("the latest correct() that did not answer NONE or throw (it answered 0)");
        FieldCodes x = Words.holding(new int[30]);
        x.spoil(8, 8);
        EXPECT.due("correct(6, 3)", () -> x.correct(6, 3), 1);
        placesAre(x, 8);
        EXPECT.due("correct(6, 3) of a codeword", () -> x.correct(6, 3), 0);
        placesAre(x);
        x.spoil(9, 8);
        EXPECT.due("correct(6, 0) of a spoilt one", () -> x.correct(6, 0), NONE);
        placesAre(x);
    }

    private static void notByNoneOrThrow() {
        EXPECT.sentence("the latest correct() that did not answer NONE or throw");
        FieldCodes x = Words.holding(new int[30]);
        x.spoil(8, 8);
        x.spoil(21, 8);
        EXPECT.due("correct(6, 3)", () -> x.correct(6, 3), 2);
        x.spoil(1, 1);
        x.spoil(2, 2);
        x.spoil(3, 3);
        for (int m = 0; m <= 2; m++) {
            int limit = m;
            EXPECT.due("correct(6, " + m + ") of three", () -> x.correct(6, limit), NONE);
            placesAre(x, 8, 21);
        }
        EXPECT.due("correct(1, 0)", () -> x.correct(1, 0), Expect.ILLEGAL_ARGUMENT);
        EXPECT.due("correct(69, 0)", () -> x.correct(69, 0), Expect.ILLEGAL_ARGUMENT);
        EXPECT.due("correct(6, -1)", () -> x.correct(6, -1), Expect.ILLEGAL_ARGUMENT);
        EXPECT.due("correct(6, 4)", () -> x.correct(6, 4), Expect.ILLEGAL_ARGUMENT);
        EXPECT.due("correct(30, 3)", () -> x.correct(30, 3), Expect.ILLEGAL_STATE);
        placesAre(x, 8, 21);
        EXPECT.due("correct(6, 3) of three", () -> x.correct(6, 3), 3);
        placesAre(x, 1, 2, 3);
    }

    /** A wrong byte at place 5 and one before the first: the word has but one of the two places. */
    private static void notByNoneWithPlacesFound() {
        EXPECT.sentence("the latest correct() that did not answer NONE (with a part of the places)");
        FieldCodes x = Words.holding(new int[30]);
        x.spoil(8, 8);
        x.spoil(21, 8);
        EXPECT.due("correct(4, 2)", () -> x.correct(4, 2), 2);
        int[] longer = new int[31];
        longer[0] = 1;
        longer = Reference.solvedAt(longer, 4, last(4, 31));
        int[] word = Arrays.copyOfRange(longer, 1, 31);
        word[5] ^= 77;
        for (int i = 0; i < 30; i++) {
            x.spoil(i, word[i]);
        }
        for (int m = 0; m <= 2; m++) {
            int limit = m;
            EXPECT.due("correct(4, " + m + ")", () -> x.correct(4, limit), NONE);
            placesAre(x, 8, 21);
            EXPECT.word(x, word);
        }
    }

    private static void whateverBecameOfTheWord() {
        EXPECT.sentence("(whatever became of the word since)");
        FieldCodes x = Words.holding(new int[30]);
        x.spoil(8, 8);
        x.spoil(29, 8);
        EXPECT.due("correct(6, 3)", () -> x.correct(6, 3), 2);
        x.spoil(8, 8);
        placesAre(x, 8, 29);
        EXPECT.due("put(8, -1)", () -> x.put(8, -1L), 38);
        placesAre(x, 8, 29);
        EXPECT.due("check(10)", () -> x.check(10), 48);
        placesAre(x, 8, 29);
        EXPECT.due("wipe()", x::wipe, 48);
        placesAre(x, 8, 29);
        EXPECT.due("put(1, 1)", () -> x.put(1, 1L), 1);
        placesAre(x, 8, 29);
    }

    /** A codeword that is not made by check(): each byte that counts is solved for. */
    private static int[] codeword(int length, int e) {
        int[] word = Arrays.copyOf(Words.random(new Numbers(length), length), length + e);
        return Reference.solvedAt(word, e, last(e, length + e));
    }

    private static int[] first(int count) {
        int[] places = new int[count];
        for (int k = 0; k < count; k++) {
            places[k] = k;
        }
        return places;
    }

    private static int[] last(int count, int length) {
        int[] places = first(count);
        for (int k = 0; k < count; k++) {
            places[k] += length - count;
        }
        return places;
    }

    private static int[] spread(int count, int length) {
        int[] places = first(count);
        for (int k = 0; k < count; k++) {
            places[k] = k * (length - 1) / Math.max(1, count - 1);
        }
        return places;
    }

    private static int[] spoilt(int[] code, int[] places) {
        int[] word = code.clone();
        for (int place : places) {
            word[place] ^= 1 + (place * 7 + 3) % 255;
        }
        return word;
    }

    private static void placesAre(FieldCodes x, int... due) {
        for (int k = 0; k < due.length; k++) {
            int index = k;
            EXPECT.due("changed(" + k + ")", () -> x.changed(index), due[k]);
        }
        EXPECT.due("changed behind", () -> x.changed(due.length), NONE);
        EXPECT.due("changed before", () -> x.changed(-1), NONE);
    }
}
