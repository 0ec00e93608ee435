/**
 * Promises 1 and 6 to 14 together: long runs of mixed calls, right and wrong, with all that can be
 * seen of the object looked at in the end, so that a call that throws and yet changes is found.
 */
public final class MixedRunsTest {
    private static final Expect EXPECT = new Expect();
    private static final int RUNS = 400;
    // With the looks at the end no object gets more than its 512 calls.
    private static final int CALLS = 180;

    private final Numbers numbers;
    private final FieldCodes x = new FieldCodes();
    private final Model model = new Model();
    private final StringBuilder told = new StringBuilder();
    private final int wipedAbove;

    private MixedRunsTest(int seed) {
        numbers = new Numbers(seed);
        told.append("run ").append(seed).append(':');
        // Every fourth run is near the longest word, where the limits are; the others keep it short.
        boolean isLong = seed % 4 == 0;
        wipedAbove = isLong ? 254 : 12;
        for (int k = 0; k < 29 && isLong; k++) {
            x.put(8, k);
            model.put(8, k);
        }
    }

    public static void main(String[] args) {
        for (int seed = 0; seed < RUNS; seed++) {
            new MixedRunsTest(seed).run();
        }
        EXPECT.end();
    }

    private void run() {
        for (int k = 0; k < CALLS; k++) {
            step();
        }
        for (int i = -1; i <= 255; i++) {
            int place = i;
            due("at(" + i + ")", () -> x.at(place), () -> model.at(place));
        }
        for (int i = -1; i <= 34; i++) {
            int index = i;
            due("changed(" + i + ")", () -> x.changed(index), () -> model.changed(index));
        }
    }

    private void step() {
        int e = numbers.between(0, 19) == 0 ? edge() : numbers.between(2, 6);
        int small = numbers.between(-1, 14);
        int byteLike = numbers.between(0, 9) == 0 ? edge() : numbers.between(0, 255);
        switch (numbers.between(0, 9)) {
            case 0 -> put();
            case 1 -> wipeSometimes();
            case 2 -> due("at(" + small + ")", () -> x.at(small), () -> model.at(small));
            case 3 -> due("spoil(" + small + ", " + byteLike + ")", () -> x.spoil(small, byteLike),
                () -> model.spoil(small, byteLike));
            case 4 -> due("value(" + byteLike + ")", () -> x.value(byteLike), () -> model.value(byteLike));
            case 5 -> due("check(" + e + ")", () -> x.check(e), () -> model.check(e));
            case 6 -> due("isCode(" + e + ")", () -> x.isCode(e) ? 1 : 0, () -> model.isCode(e));
            case 7, 8 -> correct(e);
            default -> due("changed(" + small + ")", () -> x.changed(small), () -> model.changed(small));
        }
    }

    private void put() {
        int n = numbers.between(0, 9);
        long bytes = numbers.nextLong();
        due("put(" + n + ", " + bytes + ")", () -> x.put(n, bytes), () -> model.put(n, bytes));
    }

    private void wipeSometimes() {
        if (model.at(wipedAbove) != -1) {
            due("wipe()", x::wipe, model::wipe);
        }
    }

    /** One wrong byte at most in a long word, as the model's search for two takes its time there. */
    private void correct(int e) {
        boolean wrongLimit = numbers.between(0, 9) == 0;
        int most = model.at(30) == -1 ? 2 : 1;
        int m = wrongLimit ? numbers.between(e / 2 + 1, e / 2 + 3) * (numbers.between(0, 1) * 2 - 1)
            : numbers.between(0, Math.max(0, Math.min(e / 2, most)));
        due("correct(" + e + ", " + m + ")", () -> x.correct(e, m), () -> model.correct(e, m));
    }

    private int edge() {
        int[] edges = {-1, 0, 1, 69, 255, 256, Integer.MIN_VALUE, Integer.MAX_VALUE - 6};
        return edges[numbers.between(0, edges.length - 1)];
    }

    private void due(String call, Expect.Call got, Expect.Call want) {
        told.append(' ').append(call);
        EXPECT.due(told.toString(), got, Expect.of(want));
    }
}
