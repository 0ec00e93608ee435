import java.util.Arrays;

/** What is due, worked out from the document's terms as slowly and plainly as they are told. */
final class Reference {
    private static final int[] POWERS = powers();

    static int product(int a, int b) {
        int product = 0;
        for (int k = 0; k < 8; k++) {
            if ((b >> k & 1) != 0) {
                product ^= a << k;
            }
        }
        return rest(product, 0b100011101, 8);
    }

    static int power(int exponent) {
        return POWERS[Math.floorMod(exponent, 255)];
    }

    private static int[] powers() {
        int[] powers = new int[255];
        int element = 1;
        for (int k = 0; k < 255; k++) {
            powers[k] = element;
            element = product(element, 2);
        }
        return powers;
    }

    static int quotient(int a, int b) {
        for (int element = 0; element < 256; element++) {
            if (product(element, b) == a) {
                return element;
            }
        }
        throw new ArithmeticException();
    }

    static int value(int[] word, int a) {
        int sum = 0;
        int power = 1;
        for (int i = word.length - 1; i >= 0; i--) {
            sum ^= product(word[i], power);
            power = product(power, a);
        }
        return sum;
    }

    /** The product of two polynomials, the highest power first, as in a word. */
    static int[] wordProduct(int[] a, int[] b) {
        int[] product = new int[a.length + b.length - 1];
        for (int i = 0; i < a.length; i++) {
            for (int j = 0; j < b.length; j++) {
                product[i + j] ^= product(a[i], b[j]);
            }
        }
        return product;
    }

    static boolean isCode(int[] word, int e) {
        if (word.length <= e) {
            return false;
        }
        for (int k = 0; k < e; k++) {
            if (value(word, power(k)) != 0) {
                return false;
            }
        }
        return true;
    }

    /** The codeword that differs at no more than m places, by a try of every set of places; or null. */
    static int[] near(int[] word, int e, int m) {
        for (int count = 0; count <= m; count++) {
            int[] found = nearAt(word, e, new int[count], 0, 0);
            if (found != null) {
                return found;
            }
        }
        return null;
    }

    private static int[] nearAt(int[] word, int e, int[] places, int chosen, int from) {
        if (chosen == places.length) {
            return solvedAt(word, e, places);
        }
        for (int i = from; i < word.length; i++) {
            places[chosen] = i;
            int[] found = nearAt(word, e, places, chosen + 1, i + 1);
            if (found != null) {
                return found;
            }
        }
        return null;
    }

    /** The codeword that differs at these places alone, by elimination; or null. */
    static int[] solvedAt(int[] word, int e, int[] places) {
        int count = places.length;
        int[][] rows = new int[e][count + 1];
        for (int k = 0; k < e; k++) {
            for (int j = 0; j < count; j++) {
                rows[k][j] = power(k * (word.length - 1 - places[j]));
            }
            rows[k][count] = value(word, power(k));
        }
        for (int j = 0; j < count; j++) {
            eliminate(rows, j);
        }
        for (int k = count; k < e; k++) {
            if (rows[k][count] != 0) {
                return null;
            }
        }
        int[] solved = word.clone();
        for (int j = 0; j < count; j++) {
            solved[places[j]] ^= rows[j][count];
        }
        return solved;
    }

    /**
     * The same by elimination alone, for words of every length: any polynomial of degree m at most,
     * but 0, that is a recurrence of the values has all wrong places among its roots, and has m
     * roots at most.
     */
    static int[] nearByRecurrence(int[] word, int e, int m) {
        int[] recurrence = recurrence(word, e, m);
        if (recurrence == null) {
            return null;
        }
        int[] highestFirst = reversed(recurrence);
        int[] places = new int[m];
        int count = 0;
        for (int i = 0; i < word.length; i++) {
            if (value(highestFirst, power(-(word.length - 1 - i))) == 0) {
                places[count++] = i;
            }
        }
        return solvedAt(word, e, Arrays.copyOf(places, count));
    }

    /** Coefficients c, not all 0, with the sum of c(j) s(k - j) 0 for k = m .. e - 1; or null. */
    private static int[] recurrence(int[] word, int e, int m) {
        int[][] rows = new int[e - m][m + 1];
        for (int power = 0; power < e; power++) {
            int value = value(word, power(power));
            for (int j = 0; j <= m; j++) {
                int k = power + j;
                if (k >= m && k < e) {
                    rows[k - m][j] = value;
                }
            }
        }
        for (int j = 0; j <= m; j++) {
            if (!eliminate(rows, j)) {
                return solutionWith(rows, j, m);
            }
        }
        return null;
    }

    /** The columns before the free one have a pivot each, and sum up to it. */
    private static int[] solutionWith(int[][] rows, int free, int m) {
        int[] solution = new int[m + 1];
        solution[free] = 1;
        for (int j = 0; j < free; j++) {
            solution[j] = rows[j][free];
        }
        return solution;
    }

    /** Row j gets a 1 in column j, and all others a 0; false if no row from j on has more than 0. */
    private static boolean eliminate(int[][] rows, int j) {
        int pivot = j;
        while (pivot < rows.length && rows[pivot][j] == 0) {
            pivot++;
        }
        if (pivot >= rows.length) {
            return false;
        }
        int[] row = rows[pivot];
        rows[pivot] = rows[j];
        rows[j] = row;
        int inverse = quotient(1, row[j]);
        for (int c = 0; c < row.length; c++) {
            row[c] = product(row[c], inverse);
        }
        for (int k = 0; k < rows.length; k++) {
            int factor = k == j ? 0 : rows[k][j];
            for (int c = 0; c < row.length && factor != 0; c++) {
                rows[k][c] ^= product(factor, row[c]);
            }
        }
        return true;
    }

    private static int[] reversed(int[] row) {
        int[] reversed = new int[row.length];
        for (int j = 0; j < row.length; j++) {
            reversed[j] = row[row.length - 1 - j];
        }
        return reversed;
    }

    /** The rest of a dividend by a divisor of this degree, both polynomials over two bits. */
    static int rest(int dividend, int divisor, int degree) {
        int rest = dividend;
        while (rest >> degree != 0) {
            int top = 31 - Integer.numberOfLeadingZeros(rest);
            rest ^= divisor << (top - degree);
        }
        return rest;
    }

    static int word15(int d) {
        return (1024 * d + rest(1024 * d, 1335, 10)) ^ 21522;
    }

    static int word18(int d) {
        return 4096 * d + rest(4096 * d, 7973, 12);
    }
}
