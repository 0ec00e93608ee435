/** Counts and prints the calls whose answer is not the one that is due. */
final class Expect {
    static final String ILLEGAL_ARGUMENT = "throws.IllegalArgumentException";
    static final String ILLEGAL_STATE = "throws.IllegalStateException";
    static final String OUT_OF_BOUNDS = "throws.IndexOutOfBoundsException";
    static final String ARITHMETIC = "throws.ArithmeticException";

    interface Call {
        long answer();
    }

    private static final int MOST_PRINTED = 50;

    private int wrong = 0;
    private String sentence = "";

    /** The answer as text; an exception counts by its exact class, not by one above it. */
    static String of(Call call) {
        try {
            return Long.toString(call.answer());
        } catch (Throwable thrown) {
            return "throws." + thrown.getClass().getSimpleName();
        }
    }

    /** What is due from here on is told under these words of the document. */
    void sentence(String quoted) {
        sentence = "\"" + quoted + "\": ";
    }

    void due(String told, Call call, String want) {
        String got = of(call);
        if (!got.equals(want)) {
            wrong++;
            if (wrong <= MOST_PRINTED) {
                System.out.println(sentence + told + " answered " + got + ", due is " + want);
            }
        }
    }

    void due(String told, Call call, long want) {
        due(told, call, Long.toString(want));
    }

    void holds(String told, boolean condition) {
        due(told, () -> condition ? 1 : 0, 1);
    }

    /** The word of x has these bytes and no more. */
    void word(FieldCodes x, int... due) {
        for (int i = 0; i < due.length; i++) {
            int place = i;
            due("at(" + i + ") of " + due.length, () -> x.at(place), due[i]);
        }
        due("at behind " + due.length, () -> x.at(due.length), FieldCodes.NONE);
    }

    /** Ends the test, with exit code 1 if an answer was wrong. */
    void end() {
        System.out.println(wrong == 0 ? "all answers are as due" : wrong + " answers are not as due");
        if (wrong != 0) {
            System.exit(1);
        }
    }
}
