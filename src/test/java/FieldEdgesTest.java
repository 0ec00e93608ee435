/** The boundary cases of promises 2 to 5 and of the field's terms, a method for each sentence. */
public final class FieldEdgesTest {
    private static final Expect EXPECT = new Expect();
    private static final int[] TOO_SMALL = {-1, -2, -128, -255, -256, -257, Integer.MIN_VALUE};
    private static final int[] TOO_LARGE = {256, 257, 511, 512, 65536, Integer.MAX_VALUE};

    public static void main(String[] args) {
        firstAndLastElement();
        belowTheElements(TOO_SMALL);
        aboveTheElements(TOO_LARGE);
        restOfAProduct();
        logarithmsFromZeroTo254();
        noLogarithmOfZero();
        quotientsWrapAround();
        noQuotientByZero();
        argumentsBeforeTheZero();
        powersComeRound();
        powersBelowZero();
        powersAtTheEndsOfInt();
        EXPECT.end();
    }

    private static void firstAndLastElement() {
        EXPECT.sentence("THE FIELD has the elements 0 .. 255");
        FieldCodes x = new FieldCodes();
        EXPECT.due("product(0, 0)", () -> x.product(0, 0), 0);
        EXPECT.due("product(0, 255)", () -> x.product(0, 255), 0);
        EXPECT.due("product(255, 0)", () -> x.product(255, 0), 0);
        EXPECT.due("product(1, 255)", () -> x.product(1, 255), 255);
        EXPECT.due("product(255, 1)", () -> x.product(255, 1), 255);
        EXPECT.due("product(255, 255)", () -> x.product(255, 255), 226);
        EXPECT.due("quotient(0, 1)", () -> x.quotient(0, 1), 0);
        EXPECT.due("quotient(0, 255)", () -> x.quotient(0, 255), 0);
        EXPECT.due("quotient(255, 1)", () -> x.quotient(255, 1), 255);
        EXPECT.due("quotient(255, 255)", () -> x.quotient(255, 255), 1);
        EXPECT.due("quotient(226, 255)", () -> x.quotient(226, 255), 255);
        EXPECT.due("logarithm(1)", () -> x.logarithm(1), 0);
        EXPECT.due("logarithm(255)", () -> x.logarithm(255), 175);
    }

    private static void belowTheElements(int[] numbers) {
        EXPECT.sentence("what is to be an element is not 0 .. 255 (too small)");
        refused(numbers);
    }

    private static void aboveTheElements(int[] numbers) {
        EXPECT.sentence("what is to be an element is not 0 .. 255 (too large)");
        refused(numbers);
    }

    private static void refused(int[] numbers) {
        String want = Expect.ILLEGAL_ARGUMENT;
        FieldCodes x = new FieldCodes();
        for (int a : numbers) {
            for (int right : new int[] {0, 1, 255}) {
                EXPECT.due("product(" + a + ", " + right + ")", () -> x.product(a, right), want);
                EXPECT.due("product(" + right + ", " + a + ")", () -> x.product(right, a), want);
                EXPECT.due("quotient(" + right + ", " + a + ")", () -> x.quotient(right, a), want);
            }
            EXPECT.due("product(" + a + ", " + a + ")", () -> x.product(a, a), want);
            EXPECT.due("quotient(" + a + ", 1)", () -> x.quotient(a, 1), want);
            EXPECT.due("quotient(" + a + ", 255)", () -> x.quotient(a, 255), want);
            EXPECT.due("quotient(" + a + ", " + a + ")", () -> x.quotient(a, a), want);
            EXPECT.due("logarithm(" + a + ")", () -> x.logarithm(a), want);
        }
    }

    private static void restOfAProduct() {
        EXPECT.sentence("the rest by x^8 + x^4 + x^3 + x^2 + 1 is taken");
        FieldCodes x = new FieldCodes();
        EXPECT.due("product(2, 127), x^7 at most", () -> x.product(2, 127), 254);
        EXPECT.due("product(1, 128), x^7", () -> x.product(1, 128), 128);
        EXPECT.due("product(2, 128), x^8", () -> x.product(2, 128), 29);
        EXPECT.due("product(128, 2), x^8", () -> x.product(128, 2), 29);
        EXPECT.due("product(16, 16), x^8", () -> x.product(16, 16), 29);
        EXPECT.due("product(128, 128), x^14", () -> x.product(128, 128), 19);
        EXPECT.due("product(2, 142), the rest 1", () -> x.product(2, 142), 1);
    }

    private static void logarithmsFromZeroTo254() {
        EXPECT.sentence("with an exponent 0 .. 254, its LOGARITHM");
        FieldCodes x = new FieldCodes();
        EXPECT.due("logarithm(1), not 255", () -> x.logarithm(1), 0);
        EXPECT.due("logarithm(2)", () -> x.logarithm(2), 1);
        EXPECT.due("logarithm(142), not -1", () -> x.logarithm(142), 254);
        boolean[] seen = new boolean[255];
        for (int a = 1; a < 256; a++) {
            int logarithm = x.logarithm(a);
            boolean within = logarithm >= 0 && logarithm <= 254;
            EXPECT.holds("logarithm(" + a + ") within 0 .. 254", within);
            EXPECT.holds("logarithm(" + a + ") of one element alone", within && !seen[logarithm]);
            seen[within ? logarithm : 0] = true;
        }
        FieldCodes y = new FieldCodes();
        for (int a = 1; a < 256; a++) {
            int element = a;
            EXPECT.due("power(logarithm(" + a + "))", () -> y.power(y.logarithm(element)), a);
        }
    }

    private static void noLogarithmOfZero() {
        EXPECT.sentence("The logarithm of an element. ArithmeticException: it is 0.");
        FieldCodes x = new FieldCodes();
        EXPECT.due("logarithm(0)", () -> x.logarithm(0), Expect.ARITHMETIC);
        EXPECT.due("logarithm(-1)", () -> x.logarithm(-1), Expect.ILLEGAL_ARGUMENT);
        EXPECT.due("logarithm(1)", () -> x.logarithm(1), 0);
    }

    private static void quotientsWrapAround() {
        EXPECT.sentence("the QUOTIENT of a and b, b not 0, is the element whose product with b is a");
        FieldCodes x = new FieldCodes();
        EXPECT.due("quotient(1, 2), 2 to the -1", () -> x.quotient(1, 2), 142);
        EXPECT.due("quotient(1, 142), 2 to the -254", () -> x.quotient(1, 142), 2);
        EXPECT.due("quotient(142, 1), 2 to the 254", () -> x.quotient(142, 1), 142);
        EXPECT.due("quotient(142, 142)", () -> x.quotient(142, 142), 1);
        FieldCodes y = new FieldCodes();
        for (int b = 1; b < 256; b++) {
            int divisor = b;
            EXPECT.due("quotient(0, " + b + ")", () -> y.quotient(0, divisor), 0);
            EXPECT.due("quotient(" + b + ", itself)", () -> y.quotient(divisor, divisor), 1);
        }
    }

    private static void noQuotientByZero() {
        EXPECT.sentence("ArithmeticException: b is 0.");
        FieldCodes x = new FieldCodes();
        for (int a : new int[] {0, 1, 2, 142, 255}) {
            EXPECT.due("quotient(" + a + ", 0)", () -> x.quotient(a, 0), Expect.ARITHMETIC);
        }
        EXPECT.due("quotient(5, 1)", () -> x.quotient(5, 1), 5);
        EXPECT.due("quotient(5, -1)", () -> x.quotient(5, -1), Expect.ILLEGAL_ARGUMENT);
    }

    private static void argumentsBeforeTheZero() {
        EXPECT.sentence("the one named first when several would do (quotient)");
        FieldCodes x = new FieldCodes();
        for (int a : new int[] {-1, 256, Integer.MIN_VALUE, Integer.MAX_VALUE}) {
            EXPECT.due("quotient(" + a + ", 0)", () -> x.quotient(a, 0), Expect.ILLEGAL_ARGUMENT);
        }
    }

    private static void powersComeRound() {
        EXPECT.sentence("2 to some power");
        FieldCodes x = new FieldCodes();
        powerIs(x, 0, 1);
        powerIs(x, 1, 2);
        powerIs(x, 7, 128);
        powerIs(x, 8, 29);
        powerIs(x, 253, 71);
        powerIs(x, 254, 142);
        powerIs(x, 255, 1);
        powerIs(x, 256, 2);
        powerIs(x, 509, 142);
        powerIs(x, 510, 1);
        powerIs(x, 511, 2);
    }

    private static void powersBelowZero() {
        EXPECT.sentence("2 to some power, which may be below 0");
        FieldCodes x = new FieldCodes();
        powerIs(x, -1, 142);
        powerIs(x, -2, 71);
        powerIs(x, -253, 4);
        powerIs(x, -254, 2);
        powerIs(x, -255, 1);
        powerIs(x, -256, 142);
        powerIs(x, -509, 2);
        powerIs(x, -510, 1);
        powerIs(x, -511, 142);
        for (int k = -255; k < 0; k++) {
            int exponent = k;
            EXPECT.due("power(" + k + ") times power(" + -k + ")",
                () -> Reference.product(x.power(exponent), Reference.power(-exponent)), 1);
        }
    }

    /** 255 goes 8421504 times into 2147483520. */
    private static void powersAtTheEndsOfInt() {
        EXPECT.sentence("2 to some power, which may be below 0 (the ends of int)");
        FieldCodes x = new FieldCodes();
        powerIs(x, 2147483519, 142);
        powerIs(x, 2147483520, 1);
        powerIs(x, 2147483521, 2);
        powerIs(x, Integer.MAX_VALUE - 1, 102);
        powerIs(x, Integer.MAX_VALUE, 204);
        powerIs(x, Integer.MIN_VALUE, 204);
        powerIs(x, Integer.MIN_VALUE + 1, 133);
        powerIs(x, -2147483521, 142);
        powerIs(x, -2147483520, 1);
        powerIs(x, -2147483519, 2);
    }

    private static void powerIs(FieldCodes x, int exponent, int due) {
        EXPECT.due("power(" + exponent + ")", () -> x.power(exponent), due);
    }
}
