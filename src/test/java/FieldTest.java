/** Promises 2 to 5: product, quotient, power, logarithm. */
public final class FieldTest {
    private static final Expect EXPECT = new Expect();
    private static final int[] NO_ELEMENTS = {-1, -2, -255, -256, 256, 257, 511, 65536,
        Integer.MAX_VALUE, Integer.MIN_VALUE};

    public static void main(String[] args) {
        products();
        quotients();
        powers();
        logarithms();
        wrongElements();
        EXPECT.end();
    }

    private static void products() {
        for (int a = 0; a < 256; a++) {
            FieldCodes x = new FieldCodes();
            for (int b = 0; b < 256; b++) {
                int left = a;
                int right = b;
                EXPECT.due("product(" + a + ", " + b + ")", () -> x.product(left, right),
                    Reference.product(a, b));
            }
        }
    }

    private static void quotients() {
        for (int b = 1; b < 256; b++) {
            FieldCodes x = new FieldCodes();
            int divisor = b;
            for (int answer = 0; answer < 256; answer++) {
                int a = Reference.product(answer, b);
                EXPECT.due("quotient(" + a + ", " + b + ")", () -> x.quotient(a, divisor), answer);
            }
        }
        FieldCodes x = new FieldCodes();
        for (int a = 0; a < 256; a++) {
            int dividend = a;
            EXPECT.due("quotient(" + a + ", 0)", () -> x.quotient(dividend, 0), Expect.ARITHMETIC);
        }
    }

    private static void powers() {
        for (int start = -2000; start <= 2000; start += 400) {
            FieldCodes x = new FieldCodes();
            for (int k = start; k < start + 400; k++) {
                int exponent = k;
                EXPECT.due("power(" + k + ")", () -> x.power(exponent), Reference.power(k));
            }
        }
        FieldCodes x = new FieldCodes();
        for (int k = 0; k < 200; k++) {
            int high = Integer.MAX_VALUE - k;
            int low = Integer.MIN_VALUE + k;
            EXPECT.due("power(" + high + ")", () -> x.power(high), Reference.power(high));
            EXPECT.due("power(" + low + ")", () -> x.power(low), Reference.power(low));
        }
    }

    private static void logarithms() {
        FieldCodes x = new FieldCodes();
        for (int k = 0; k < 255; k++) {
            int a = Reference.power(k);
            EXPECT.due("logarithm(" + a + ")", () -> x.logarithm(a), k);
        }
        EXPECT.due("logarithm(0)", () -> x.logarithm(0), Expect.ARITHMETIC);
    }

    private static void wrongElements() {
        FieldCodes x = new FieldCodes();
        for (int a : NO_ELEMENTS) {
            String want = Expect.ILLEGAL_ARGUMENT;
            EXPECT.due("product(" + a + ", 1)", () -> x.product(a, 1), want);
            EXPECT.due("product(1, " + a + ")", () -> x.product(1, a), want);
            EXPECT.due("product(" + a + ", 0)", () -> x.product(a, 0), want);
            EXPECT.due("product(0, " + a + ")", () -> x.product(0, a), want);
            EXPECT.due("quotient(" + a + ", 1)", () -> x.quotient(a, 1), want);
            EXPECT.due("quotient(" + a + ", 0)", () -> x.quotient(a, 0), want);
            EXPECT.due("quotient(1, " + a + ")", () -> x.quotient(1, a), want);
            EXPECT.due("quotient(0, " + a + ")", () -> x.quotient(0, a), want);
            EXPECT.due("logarithm(" + a + ")", () -> x.logarithm(a), want);
        }
    }
}
