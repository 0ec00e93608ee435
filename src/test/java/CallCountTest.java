/** "An object is used for at most 512 calls after it has been made": all of them are as due. */
public final class CallCountTest {
    private static final Expect EXPECT = new Expect();
    private static final int CALLS = 512;

    private interface Call {
        long on(FieldCodes x);
    }

    public static void main(String[] args) {
        EXPECT.sentence("An object is used for at most 512 calls after it has been made");
        theLastCallOfEachKind();
        fullWordsOverAndOver();
        dearestCalls();
        bytesOneByOne();
        EXPECT.end();
    }

    /** The word 1 3 2 with the last byte wrong, and refused calls until one alone is left. */
    private static void theLastCallOfEachKind() {
        last("product(3, 7)", x -> x.product(3, 7), "9");
        last("quotient(1, 2)", x -> x.quotient(1, 2), "142");
        last("quotient(1, 0)", x -> x.quotient(1, 0), Expect.ARITHMETIC);
        last("power(-1)", x -> x.power(-1), "142");
        last("logarithm(142)", x -> x.logarithm(142), "254");
        last("put(8, 0)", x -> x.put(8, 0), "11");
        last("wipe()", FieldCodes::wipe, "3");
        last("at(2)", x -> x.at(2), "6");
        last("spoil(2, 4)", x -> x.spoil(2, 4), "2");
        last("spoil(3, 4)", x -> x.spoil(3, 4), Expect.OUT_OF_BOUNDS);
        last("value(0)", x -> x.value(0), "6");
        last("check(68)", x -> x.check(68), "71");
        last("isCode(2)", x -> x.isCode(2) ? 1 : 0, "0");
        last("correct(2, 1)", x -> x.correct(2, 1), "1");
        last("correct(2, 0)", x -> x.correct(2, 0), "-1");
        last("correct(3, 0)", x -> x.correct(3, 0), Expect.ILLEGAL_STATE);
        last("changed(0)", x -> x.changed(0), "0");
        last("word15(31)", x -> x.word15(31), "11245");
        last("read15(11245)", x -> x.read15(11245), "31");
        last("word18(1)", x -> x.word18(1), "7973");
        last("read18(7973)", x -> x.read18(7973), "1");
    }

    private static void last(String told, Call call, String want) {
        FieldCodes x = new FieldCodes();
        x.put(3, 0x020301L);
        x.spoil(0, 9);
        EXPECT.due("correct(2, 1)", () -> x.correct(2, 1), 1);
        x.spoil(2, 4);
        for (int k = 4; k < CALLS - 1; k++) {
            int e = k % 2;
            EXPECT.due("check(" + e + ")", () -> x.check(e), Expect.ILLEGAL_ARGUMENT);
        }
        EXPECT.due("call no. 512: " + told, () -> call.on(x), want);
    }

    private static void fullWordsOverAndOver() {
        FieldCodes x = new FieldCodes();
        int calls = 0;
        while (calls + 34 <= CALLS) {
            for (int k = 1; k <= 31; k++) {
                int due = 8 * k;
                EXPECT.due("put no. " + k, () -> x.put(8, -1L), due);
            }
            EXPECT.due("put past the end", () -> x.put(8, -1L), FieldCodes.NONE);
            EXPECT.due("put up to the end", () -> x.put(7, -1L), 255);
            EXPECT.due("wipe()", x::wipe, 255);
            calls += 34;
        }
        while (calls < CALLS) {
            EXPECT.due("wipe() of none", x::wipe, 0);
            calls++;
        }
    }

    private static void dearestCalls() {
        FieldCodes x = new FieldCodes();
        Words.put(x, Words.random(new Numbers(1), 187));
        EXPECT.due("check(68)", () -> x.check(68), 255);
        for (int k = 0; k < 34; k++) {
            x.spoil(7 * k, 255 - k);
        }
        for (int calls = 24 + 1 + 34; calls < CALLS - 1; calls++) {
            EXPECT.due("correct(68, 33) of 34", () -> x.correct(68, 33), FieldCodes.NONE);
        }
        EXPECT.due("call no. 512: correct(68, 34)", () -> x.correct(68, 34), 34);
    }

    private static void bytesOneByOne() {
        FieldCodes x = new FieldCodes();
        for (int k = 0; k < 255; k++) {
            int value = k + 1;
            EXPECT.due("put no. " + value, () -> x.put(1, value), value);
        }
        for (int k = 0; k < 256; k++) {
            int place = k;
            EXPECT.due("at(" + k + ")", () -> x.at(place), k < 255 ? k + 1 : FieldCodes.NONE);
        }
        EXPECT.due("call no. 512: wipe()", x::wipe, 255);
    }
}
