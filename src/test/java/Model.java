import java.util.Arrays;

/** The whole class over again, out of Reference; for short words, as its correct() is slow. */
final class Model {
    private int[] word = {};
    private int[] changed = {};

    int put(int n, long bytes) {
        require(n >= 1 && n <= 8);
        if (word.length + n > 255) {
            return -1;
        }
        for (int k = 0; k < n; k++) {
            word = Arrays.copyOf(word, word.length + 1);
            word[word.length - 1] = (int) (bytes >>> (8 * k) & 255);
        }
        return word.length;
    }

    int wipe() {
        int had = word.length;
        word = new int[0];
        return had;
    }

    int at(int i) {
        return i < 0 || i >= word.length ? -1 : word[i];
    }

    int spoil(int i, int v) {
        require(v >= 0 && v <= 255);
        if (at(i) == -1) {
            throw new IndexOutOfBoundsException();
        }
        word[i] ^= v;
        return word[i];
    }

    int value(int a) {
        require(a >= 0 && a <= 255);
        return Reference.value(word, a);
    }

    /** The check bytes as what a word with all of them unknown needs to become a codeword. */
    int check(int e) {
        require(e >= 2 && e <= 68);
        if (word.length == 0 || word.length + e > 255) {
            throw new IllegalStateException();
        }
        int[] places = new int[e];
        for (int j = 0; j < e; j++) {
            places[j] = word.length + j;
        }
        word = Reference.solvedAt(Arrays.copyOf(word, word.length + e), e, places);
        return word.length;
    }

    int isCode(int e) {
        require(e >= 2 && e <= 68);
        return Reference.isCode(word, e) ? 1 : 0;
    }

    int correct(int e, int m) {
        require(e >= 2 && e <= 68 && m >= 0 && 2L * m <= e);
        if (word.length <= e) {
            throw new IllegalStateException();
        }
        int[] right = Reference.near(word, e, m);
        if (right == null) {
            return -1;
        }
        int count = 0;
        int[] places = new int[m];
        for (int i = 0; i < word.length; i++) {
            if (right[i] != word[i]) {
                places[count++] = i;
            }
        }
        word = right;
        changed = Arrays.copyOf(places, count);
        return count;
    }

    int changed(int i) {
        return i < 0 || i >= changed.length ? -1 : changed[i];
    }

    private static void require(boolean argumentsAreRight) {
        if (!argumentsAreRight) {
            throw new IllegalArgumentException();
        }
    }
}
