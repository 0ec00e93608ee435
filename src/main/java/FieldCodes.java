/**
 * Words of bytes with check bytes over the field of 256 elements, which are put right when some
 * of their bytes are wrong, and short words of 15 and 18 bits of the same kind.
 */
public final class FieldCodes {
    public static final int NONE = -1;

    private static final int FEWEST_CHECKS = 2;
    private static final int MOST_CHECKS = 68;
    private static final int MOST_PUT = 8;

    private final Field field;
    private final Word word;
    private final CheckMaker checkMaker;
    private final ErrorFinder errorFinder;
    private final ShortCode code15;
    private final ShortCode code18;
    // Kept apart from the finder's own row, which a correct() that answers NONE overwrites.
    private final int[] changedPlaces;
    private int changedCount;

    public FieldCodes() {
        field = new Field();
        word = new Word(field);
        checkMaker = new CheckMaker(field);
        errorFinder = new ErrorFinder(field);
        code15 = new ShortCode(5, 10, 1335, 21522);
        code18 = new ShortCode(6, 12, 7973, 0);
        changedPlaces = new int[MOST_CHECKS / 2];
        changedCount = 0;
    }

    public int product(int a, int b) throws IllegalArgumentException {
        requireElement(a);
        requireElement(b);
        return field.times(a, b);
    }

    public int quotient(int a, int b) throws IllegalArgumentException, ArithmeticException {
        requireElement(a);
        requireElement(b);
        requireNotZero(b);
        return field.over(a, b);
    }

    public int power(int exponent) {
        return field.twoTo(exponent);
    }

    public int logarithm(int a) throws IllegalArgumentException, ArithmeticException {
        requireElement(a);
        requireNotZero(a);
        return field.exponentOf(a);
    }

    public int put(int n, long bytes) throws IllegalArgumentException {
        if (n < 1 || n > MOST_PUT) {
            throw new IllegalArgumentException("n is not 1 .. 8");
        }
        if (!word.hasRoomFor(n)) {
            return NONE;
        }
        for (int k = 0; k < n; k++) {
            word.append((int) (bytes >>> (8 * k)) & 255);
        }
        return word.length;
    }

    public int wipe() {
        int had = word.length;
        word.length = 0;
        return had;
    }

    public int at(int i) {
        return word.has(i) ? word.bytes[i] : NONE;
    }

    public int spoil(int i, int v) throws IllegalArgumentException, IndexOutOfBoundsException {
        requireElement(v);
        if (!word.has(i)) {
            throw new IndexOutOfBoundsException("there is no such byte");
        }
        word.bytes[i] ^= v;
        return word.bytes[i];
    }

    public int value(int a) throws IllegalArgumentException {
        requireElement(a);
        return word.valueAt(a);
    }

    public int check(int e) throws IllegalArgumentException, IllegalStateException {
        requireCheckCount(e);
        if (word.length == 0 || !word.hasRoomFor(e)) {
            throw new IllegalStateException("the word is empty or would be too long");
        }
        checkMaker.appendChecks(word, e);
        return word.length;
    }

    public boolean isCode(int e) throws IllegalArgumentException {
        requireCheckCount(e);
        if (word.length <= e) {
            return false;
        }
        for (int k = 0; k < e; k++) {
            if (word.valueAt(field.twoTo(k)) != 0) {
                return false;
            }
        }
        return true;
    }

    public int correct(int e, int m) throws IllegalArgumentException, IllegalStateException {
        requireCheckCount(e);
        // Halving e, as doubling m could overflow.
        if (m < 0 || m > e / 2) {
            throw new IllegalArgumentException("m is below 0 or 2 m above e");
        }
        if (word.length <= e) {
            throw new IllegalStateException("the word is not longer than e");
        }
        int count = errorFinder.find(word, e, m);
        if (count == NONE) {
            return NONE;
        }
        for (int k = 0; k < count; k++) {
            int place = errorFinder.places[k];
            word.bytes[place] ^= errorFinder.amounts[k];
            changedPlaces[k] = place;
        }
        changedCount = count;
        return count;
    }

    public int changed(int i) {
        return i >= 0 && i < changedCount ? changedPlaces[i] : NONE;
    }

    public int word15(int d) throws IllegalArgumentException {
        requireNumber(d, code15);
        return code15.wordOf(d);
    }

    public int read15(int bits) throws IllegalArgumentException {
        requireBits(bits, code15);
        return code15.numberNear(bits);
    }

    public int word18(int d) throws IllegalArgumentException {
        requireNumber(d, code18);
        return code18.wordOf(d);
    }

    public int read18(int bits) throws IllegalArgumentException {
        requireBits(bits, code18);
        return code18.numberNear(bits);
    }

    private static void requireElement(int a) {
        if (a < 0 || a >= Field.ELEMENTS) {
            throw new IllegalArgumentException("not an element");
        }
    }

    private static void requireNotZero(int a) {
        if (a == 0) {
            throw new ArithmeticException("the element is 0");
        }
    }

    private static void requireCheckCount(int e) {
        if (e < FEWEST_CHECKS || e > MOST_CHECKS) {
            throw new IllegalArgumentException("e is not 2 .. 68");
        }
    }

    private static void requireNumber(int d, ShortCode code) {
        if (d < 0 || d >= code.numbers()) {
            throw new IllegalArgumentException("no word belongs to this number");
        }
    }

    private static void requireBits(int bits, ShortCode code) {
        if (bits < 0 || bits >= code.bitRows()) {
            throw new IllegalArgumentException("too many bits");
        }
    }

    /** The field of 256 elements, by tables of the powers of 2 and of the logarithms. */
    private static final class Field {
        static final int ELEMENTS = 256;
        // The powers of 2 come round after this many.
        static final int ORDER = 255;
        static final int MODULUS = 0x11D;

        // Twice round, so that a sum or a difference of two logarithms needs no remainder.
        private final int[] powers;
        private final int[] logs;

        Field() {
            powers = new int[2 * ORDER];
            logs = new int[ELEMENTS];
            int element = 1;
            for (int k = 0; k < ORDER; k++) {
                powers[k] = element;
                powers[k + ORDER] = element;
                logs[element] = k;
                element <<= 1;
                if (element >= ELEMENTS) {
                    element ^= MODULUS;
                }
            }
        }

        int times(int a, int b) {
            return a == 0 || b == 0 ? 0 : powers[logs[a] + logs[b]];
        }

        /** For b not 0. */
        int over(int a, int b) {
            return a == 0 ? 0 : powers[logs[a] - logs[b] + ORDER];
        }

        int twoTo(int exponent) {
            return powers[Math.floorMod(exponent, ORDER)];
        }

        /** For a not 0. */
        int exponentOf(int a) {
            return logs[a];
        }
    }

    /** A row of bytes, the first of which is the coefficient of the highest power. */
    private static final class Word {
        static final int LONGEST = 255;

        private final Field field;
        private final int[] bytes;
        private int length;

        Word(Field field) {
            this.field = field;
            bytes = new int[LONGEST];
            length = 0;
        }

        boolean has(int i) {
            return i >= 0 && i < length;
        }

        boolean hasRoomFor(int more) {
            return length + more <= LONGEST;
        }

        /** For a word that has room for one byte. */
        void append(int element) {
            bytes[length] = element;
            length++;
        }

        int valueAt(int a) {
            int value = 0;
            for (int i = 0; i < length; i++) {
                value = field.times(value, a) ^ bytes[i];
            }
            return value;
        }
    }

    /** Makes check bytes: the rest of the word, moved up by them, by the product of x - 2^k. */
    private static final class CheckMaker {
        private final Field field;
        // The highest power first, as in a word.
        private final int[] generator;
        private final int[] rest;

        CheckMaker(Field field) {
            this.field = field;
            generator = new int[MOST_CHECKS + 1];
            rest = new int[MOST_CHECKS];
        }

        /** For a word that has room for e bytes. */
        void appendChecks(Word word, int e) {
            makeGenerator(e);
            divide(word, e);
            for (int j = 0; j < e; j++) {
                word.append(rest[j]);
            }
        }

        private void makeGenerator(int e) {
            generator[0] = 1;
            for (int k = 0; k < e; k++) {
                int root = field.twoTo(k);
                generator[k + 1] = 0;
                // From the far end, as each step needs its neighbour as it was before.
                for (int j = k + 1; j > 0; j--) {
                    generator[j] ^= field.times(generator[j - 1], root);
                }
            }
        }

        private void divide(Word word, int e) {
            for (int j = 0; j < e; j++) {
                rest[j] = 0;
            }
            for (int i = 0; i < word.length; i++) {
                int lead = rest[0] ^ word.bytes[i];
                for (int j = 0; j < e; j++) {
                    int moved = j + 1 < e ? rest[j + 1] : 0;
                    rest[j] = moved ^ field.times(lead, generator[j + 1]);
                }
            }
        }
    }

    /**
     * Finds the places at which a word differs from a near codeword, and what to sum up there.
     *
     * <p>The locator is the polynomial, 1 at 0, whose roots are the inverses of the 2^p for the
     * powers p of x that have a wrong coefficient. In its rows the lowest power comes first.
     */
    private static final class ErrorFinder {
        private final Field field;
        private final int[] syndromes;
        private final int[] locator;
        private final int[] formerLocator;
        private final int[] savedLocator;
        private final int[] evaluator;
        private final int[] places;
        private final int[] amounts;

        ErrorFinder(Field field) {
            this.field = field;
            syndromes = new int[MOST_CHECKS];
            locator = new int[MOST_CHECKS + 1];
            formerLocator = new int[MOST_CHECKS + 1];
            savedLocator = new int[MOST_CHECKS + 1];
            evaluator = new int[MOST_CHECKS / 2];
            places = new int[MOST_CHECKS / 2];
            amounts = new int[MOST_CHECKS / 2];
        }

        /** How many places, at most m, are in places and amounts then; NONE if no codeword is near. */
        int find(Word word, int e, int m) {
            for (int k = 0; k < e; k++) {
                syndromes[k] = word.valueAt(field.twoTo(k));
            }
            int degree = findLocator(e, m);
            // A locator without as many roots as its degree belongs to no wrong places at all.
            if (degree > m || findPlaces(word.length, degree) != degree) {
                return NONE;
            }
            findAmounts(word.length, degree);
            return degree;
        }

        /**
         * The shortest recurrence that the syndromes follow, by Berlekamp's and Massey's steps.
         * Answers its length, or some number above m once it is too long, as it never shrinks.
         */
        private int findLocator(int e, int m) {
            for (int j = 0; j <= MOST_CHECKS; j++) {
                locator[j] = 0;
                formerLocator[j] = 0;
            }
            locator[0] = 1;
            formerLocator[0] = 1;
            int formerGap = 1;
            int shift = 1;
            int degree = 0;
            for (int k = 0; k < e && degree <= m; k++) {
                int gap = locatorTimesSyndromes(k, degree);
                if (gap != 0) {
                    int factor = field.over(gap, formerGap);
                    if (2 * degree <= k) {
                        System.arraycopy(locator, 0, savedLocator, 0, MOST_CHECKS + 1);
                        addFormer(factor, shift);
                        System.arraycopy(savedLocator, 0, formerLocator, 0, MOST_CHECKS + 1);
                        formerGap = gap;
                        degree = k + 1 - degree;
                        shift = 0;
                    } else {
                        addFormer(factor, shift);
                    }
                }
                shift++;
            }
            return degree;
        }

        private void addFormer(int factor, int shift) {
            for (int j = shift; j <= MOST_CHECKS; j++) {
                locator[j] ^= field.times(factor, formerLocator[j - shift]);
            }
        }

        /** Coefficient k of the product of the locator and the syndromes, both as polynomials. */
        private int locatorTimesSyndromes(int k, int degree) {
            int sum = 0;
            for (int j = 0; j <= degree && j <= k; j++) {
                sum ^= field.times(locator[j], syndromes[k - j]);
            }
            return sum;
        }

        private int findPlaces(int length, int degree) {
            int count = 0;
            for (int i = 0; i < length && count < degree; i++) {
                int inverse = field.twoTo(i + 1 - length);
                if (valueOf(locator, degree + 1, inverse) == 0) {
                    places[count] = i;
                    count++;
                }
            }
            return count;
        }

        /** Forney's rule; the locator's roots are simple here, so that its slope there is not 0. */
        private void findAmounts(int length, int degree) {
            for (int k = 0; k < degree; k++) {
                evaluator[k] = locatorTimesSyndromes(k, degree);
            }
            for (int k = 0; k < degree; k++) {
                int power = length - 1 - places[k];
                int inverse = field.twoTo(-power);
                int above = field.times(field.twoTo(power), valueOf(evaluator, degree, inverse));
                amounts[k] = field.over(above, locatorSlope(degree, inverse));
            }
        }

        /** The derivative of the locator: even powers fall away, as 1 + 1 is 0 in this field. */
        private int locatorSlope(int degree, int a) {
            int square = field.times(a, a);
            int power = 1;
            int sum = 0;
            for (int j = 1; j <= degree; j += 2) {
                sum ^= field.times(locator[j], power);
                power = field.times(power, square);
            }
            return sum;
        }

        private int valueOf(int[] row, int count, int a) {
            int value = 0;
            for (int j = count - 1; j >= 0; j--) {
                value = field.times(value, a) ^ row[j];
            }
            return value;
        }
    }

    /** Short words: a number, the rest of it by a polynomial over two bits, and a mask on both. */
    private static final class ShortCode {
        static final int MOST_WRONG_BITS = 3;

        private final int numberBits;
        private final int restBits;
        private final int divisor;
        private final int mask;

        ShortCode(int numberBits, int restBits, int divisor, int mask) {
            this.numberBits = numberBits;
            this.restBits = restBits;
            this.divisor = divisor;
            this.mask = mask;
        }

        int numbers() {
            return 1 << numberBits;
        }

        int bitRows() {
            return 1 << (numberBits + restBits);
        }

        int wordOf(int d) {
            int raised = d << restBits;
            return (raised ^ restOf(raised)) ^ mask;
        }

        private int restOf(int dividend) {
            int rest = dividend;
            for (int k = numberBits - 1; k >= 0; k--) {
                if (((rest >> (k + restBits)) & 1) != 0) {
                    rest ^= divisor << k;
                }
            }
            return rest;
        }

        int numberNear(int bits) {
            for (int d = 0; d < numbers(); d++) {
                if (Integer.bitCount(wordOf(d) ^ bits) <= MOST_WRONG_BITS) {
                    return d;
                }
            }
            return NONE;
        }
    }
}
