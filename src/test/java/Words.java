/** Words as rows of bytes: made, put into an object and read back with few calls. */
final class Words {
    static int[] random(Numbers numbers, int length) {
        int[] word = new int[length];
        for (int i = 0; i < length; i++) {
            word[i] = numbers.between(0, 255);
        }
        return word;
    }

    static FieldCodes holding(int... word) {
        FieldCodes x = new FieldCodes();
        put(x, word);
        return x;
    }

    static void put(FieldCodes x, int[] word) {
        for (int from = 0; from < word.length; from += 8) {
            int n = Math.min(8, word.length - from);
            long bytes = 0;
            for (int k = 0; k < n; k++) {
                bytes |= (long) word[from + k] << (8 * k);
            }
            x.put(n, bytes);
        }
    }

    static int[] bytes(FieldCodes x, int length) {
        int[] word = new int[length];
        for (int i = 0; i < length; i++) {
            word[i] = x.at(i);
        }
        return word;
    }
}
