import java.util.ArrayList;
import java.util.List;

/**
 * The rule for all methods: "a call that throws, or answers NONE, changes nothing". Of two objects
 * that are made by the same calls one gets a refused call more, and all that can be seen of the two
 * must stay the same, with later calls too.
 */
public final class RefusedCallsTest {
    private static final Expect EXPECT = new Expect();
    private static final String ARGUMENT = Expect.ILLEGAL_ARGUMENT;
    private static final String STATE = Expect.ILLEGAL_STATE;
    private static final String NONE = Integer.toString(FieldCodes.NONE);

    private interface Call {
        long on(FieldCodes x);
    }

    private interface Maker {
        void make(FieldCodes x);
    }

    private record Refused(String told, Call call, String want) { }

    /** What an object has gone through, how long its word is then and how many places it changed. */
    private record Past(String told, int length, int changes, Maker maker) {
        FieldCodes object() {
            FieldCodes x = new FieldCodes();
            maker.make(x);
            return x;
        }
    }

    private static final Past NEW = new Past("a new object", 0, 0, x -> { });
    private static final Past WIPED = new Past("a wiped word", 0, 3, x -> {
        corrected(x, 30, 2, 9, 29);
        x.wipe();
    });
    private static final Past ONE_BYTE = new Past("a word of one byte", 1, 0, x -> x.put(1, 200));
    private static final Past CODEWORD = new Past("a codeword", 30, 3,
        x -> corrected(x, 30, 2, 9, 29));
    private static final Past LONG = new Past("a word of 254 bytes", 254, 1, x -> {
        corrected(x, 254, 253);
        x.spoil(3, 3);
    });
    // Five wrong bytes: more than e places part two codewords, so that none is within e - 5 places.
    private static final Past FAR = new Past("a word far from all codewords", 30, 3, x -> {
        corrected(x, 30, 2, 9, 29);
        spoil(x, 0, 7, 8, 20, 29);
    });
    private static final Past FULL = new Past("a full word", 255, 34, x -> {
        corrected(x, 255, spread(34));
        spoil(x, spread(35));
    });
    private static final Past[] PASTS = {NEW, WIPED, ONE_BYTE, CODEWORD, LONG, FAR, FULL};

    public static void main(String[] args) {
        wrongArguments();
        emptyOrFull();
        noSuchByte();
        noCodeword();
        noneOfTheRest();
        answersAlone();
        EXPECT.end();
    }

    private static void wrongArguments() {
        EXPECT.sentence("a call that throws changes nothing (wrong arguments)");
        List<Refused> calls = new ArrayList<>();
        for (int a : new int[] {-1, 256}) {
            calls.add(new Refused("product(" + a + ", 1)", x -> x.product(a, 1), ARGUMENT));
            calls.add(new Refused("product(1, " + a + ")", x -> x.product(1, a), ARGUMENT));
            calls.add(new Refused("quotient(" + a + ", 0)", x -> x.quotient(a, 0), ARGUMENT));
            calls.add(new Refused("quotient(1, " + a + ")", x -> x.quotient(1, a), ARGUMENT));
            calls.add(new Refused("logarithm(" + a + ")", x -> x.logarithm(a), ARGUMENT));
            calls.add(new Refused("spoil(0, " + a + ")", x -> x.spoil(0, a), ARGUMENT));
            calls.add(new Refused("spoil(255, " + a + ")", x -> x.spoil(255, a), ARGUMENT));
            calls.add(new Refused("value(" + a + ")", x -> x.value(a), ARGUMENT));
        }
        calls.add(new Refused("quotient(5, 0)", x -> x.quotient(5, 0), Expect.ARITHMETIC));
        calls.add(new Refused("logarithm(0)", x -> x.logarithm(0), Expect.ARITHMETIC));
        for (int n : new int[] {Integer.MIN_VALUE, -1, 0, 9, Integer.MAX_VALUE}) {
            calls.add(new Refused("put(" + n + ", -1)", x -> x.put(n, -1L), ARGUMENT));
        }
        for (int e : new int[] {Integer.MIN_VALUE, -1, 0, 1, 69, Integer.MAX_VALUE}) {
            calls.add(new Refused("check(" + e + ")", x -> x.check(e), ARGUMENT));
            calls.add(new Refused("isCode(" + e + ")", x -> x.isCode(e) ? 1 : 0, ARGUMENT));
            calls.add(new Refused("correct(" + e + ", 0)", x -> x.correct(e, 0), ARGUMENT));
        }
        for (int m : new int[] {Integer.MIN_VALUE, -1, 4, 1 << 30, Integer.MAX_VALUE}) {
            calls.add(new Refused("correct(6, " + m + ")", x -> x.correct(6, m), ARGUMENT));
            calls.add(new Refused("correct(7, " + m + ")", x -> x.correct(7, m), ARGUMENT));
        }
        calls.add(new Refused("word15(-1)", x -> x.word15(-1), ARGUMENT));
        calls.add(new Refused("word15(32)", x -> x.word15(32), ARGUMENT));
        calls.add(new Refused("read15(-1)", x -> x.read15(-1), ARGUMENT));
        calls.add(new Refused("read15(32768)", x -> x.read15(32768), ARGUMENT));
        calls.add(new Refused("word18(-1)", x -> x.word18(-1), ARGUMENT));
        calls.add(new Refused("word18(64)", x -> x.word18(64), ARGUMENT));
        calls.add(new Refused("read18(-1)", x -> x.read18(-1), ARGUMENT));
        calls.add(new Refused("read18(262144)", x -> x.read18(262144), ARGUMENT));
        for (Past past : PASTS) {
            changeNothing(past, calls);
        }
    }

    private static void emptyOrFull() {
        EXPECT.sentence("a call that throws, or answers NONE, changes nothing (no bytes or no room)");
        for (Past past : PASTS) {
            List<Refused> calls = new ArrayList<>();
            for (int n = Math.max(1, 256 - past.length); n <= 8; n++) {
                int size = n;
                calls.add(new Refused("put(" + n + ", -1)", x -> x.put(size, -1L), NONE));
            }
            for (int e : new int[] {2, 3, 67, 68}) {
                if (past.length == 0 || past.length + e > 255) {
                    calls.add(new Refused("check(" + e + ")", x -> x.check(e), STATE));
                }
                if (past.length <= e) {
                    calls.add(new Refused("correct(" + e + ", 1)", x -> x.correct(e, 1), STATE));
                }
            }
            changeNothing(past, calls);
        }
    }

    private static void noSuchByte() {
        EXPECT.sentence("a call that throws changes nothing (no such byte)");
        for (Past past : PASTS) {
            List<Refused> calls = new ArrayList<>();
            for (int i : new int[] {-1, past.length, 255, Integer.MIN_VALUE, Integer.MAX_VALUE}) {
                calls.add(new Refused("spoil(" + i + ", 255)", x -> x.spoil(i, 255),
                    Expect.OUT_OF_BOUNDS));
            }
            changeNothing(past, calls);
        }
    }

    private static void noCodeword() {
        EXPECT.sentence("a call that answers NONE changes nothing (correct)");
        List<Refused> far = new ArrayList<>();
        for (int e = 8; e <= 20; e++) {
            int count = e;
            for (int m = 0; m <= Math.min(e - 5, 4) && 2 * m <= e; m++) {
                int limit = m;
                far.add(new Refused("correct(" + e + ", " + m + ")", x -> x.correct(count, limit),
                    NONE));
            }
        }
        changeNothing(FAR, far);
        List<Refused> full = new ArrayList<>();
        for (int m = 0; m <= 33; m++) {
            int limit = m;
            full.add(new Refused("correct(68, " + m + ")", x -> x.correct(68, limit), NONE));
        }
        changeNothing(FULL, full);
        changeNothing(LONG, List.of(new Refused("correct(2, 0)", x -> x.correct(2, 0), NONE),
            new Refused("correct(68, 0)", x -> x.correct(68, 0), NONE)));
    }

    private static void noneOfTheRest() {
        EXPECT.sentence("a call that answers NONE changes nothing (at, changed, read15, read18)");
        int farFrom15 = farFrom15();
        for (Past past : PASTS) {
            changeNothing(past, List.of(
                new Refused("at(-1)", x -> x.at(-1), NONE),
                new Refused("at(" + past.length + ")", x -> x.at(past.length), NONE),
                new Refused("changed(-1)", x -> x.changed(-1), NONE),
                new Refused("changed(" + past.changes + ")", x -> x.changed(past.changes), NONE),
                new Refused("read15(" + farFrom15 + ")", x -> x.read15(farFrom15), NONE),
                new Refused("read18(15)", x -> x.read18(15), NONE)));
        }
    }

    private static int farFrom15() {
        int bits = 0;
        for (int d = 0; d < 32; d++) {
            if (Integer.bitCount(Reference.word15(d) ^ bits) <= 3) {
                bits++;
                d = -1;
            }
        }
        return bits;
    }

    private static void answersAlone() {
        EXPECT.sentence("Nothing is promised beyond the answers and state changes described above");
        for (Past past : PASTS) {
            FieldCodes y = past.object();
            changeNothing(past, List.of(
                new Refused("product(3, 7)", x -> x.product(3, 7), "9"),
                new Refused("quotient(1, 2)", x -> x.quotient(1, 2), "142"),
                new Refused("power(-1)", x -> x.power(-1), "142"),
                new Refused("logarithm(142)", x -> x.logarithm(142), "254"),
                new Refused("at(0)", x -> x.at(0), Expect.of(() -> y.at(0))),
                new Refused("value(3)", x -> x.value(3), Expect.of(() -> y.value(3))),
                new Refused("isCode(6)", x -> x.isCode(6) ? 1 : 0,
                    Expect.of(() -> y.isCode(6) ? 1 : 0)),
                new Refused("changed(0)", x -> x.changed(0), Expect.of(() -> y.changed(0)))));
            changeNothing(past, List.of(
                new Refused("word15(31)", x -> x.word15(31), "11245"),
                new Refused("read15(11245)", x -> x.read15(11245), "31"),
                new Refused("word18(1)", x -> x.word18(1), "7973"),
                new Refused("read18(7973)", x -> x.read18(7973), "1")));
        }
    }

    private static void changeNothing(Past past, List<Refused> calls) {
        for (Refused refused : calls) {
            FieldCodes x = past.object();
            String told = refused.told + " of " + past.told;
            EXPECT.due(told, () -> refused.call.on(x), refused.want);
            sameToSee("after " + told, x, past.object());
        }
    }

    private static void sameToSee(String told, FieldCodes x, FieldCodes due) {
        for (int i = -1; i <= 255; i++) {
            int place = i;
            EXPECT.due("at(" + i + ") " + told, () -> x.at(place), due.at(i));
        }
        for (int i = -1; i <= 34; i++) {
            int index = i;
            EXPECT.due("changed(" + i + ") " + told, () -> x.changed(index), due.changed(i));
        }
        same("isCode(6) " + told, y -> y.isCode(6) ? 1 : 0, x, due);
        same("value(2) " + told, y -> y.value(2), x, due);
        same("correct(12, 5) " + told, y -> y.correct(12, 5), x, due);
        same("changed(4) " + told, y -> y.changed(4), x, due);
        same("value(3) " + told, y -> y.value(3), x, due);
        same("check(2) " + told, y -> y.check(2), x, due);
        same("value(5) " + told, y -> y.value(5), x, due);
        same("put(1, 3) " + told, y -> y.put(1, 3), x, due);
        same("value(7) " + told, y -> y.value(7), x, due);
        same("wipe() " + told, FieldCodes::wipe, x, due);
    }

    private static void same(String told, Call call, FieldCodes x, FieldCodes due) {
        EXPECT.due(told, () -> call.on(x), Expect.of(() -> call.on(due)));
    }

    /** Zeros, spoilt at some places and put right again, so that changed() has something to tell. */
    private static void corrected(FieldCodes x, int length, int... places) {
        Words.put(x, new int[length]);
        spoil(x, places);
        int e = Math.max(2, 2 * places.length);
        EXPECT.due("correct(" + e + ")", () -> x.correct(e, places.length), places.length);
    }

    private static void spoil(FieldCodes x, int... places) {
        for (int place : places) {
            x.spoil(place, 1 + place);
        }
    }

    private static int[] spread(int count) {
        int[] places = new int[count];
        for (int k = 0; k < count; k++) {
            places[k] = k * 254 / (count - 1);
        }
        return places;
    }
}
