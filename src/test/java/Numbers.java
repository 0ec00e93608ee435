/** The same row of scattered numbers in every run, so that a failure can be seen again. */
final class Numbers {
    private long state;

    Numbers(long seed) {
        state = seed * 0x9E3779B97F4A7C15L + 1;
    }

    long nextLong() {
        state += 0x9E3779B97F4A7C15L;
        long mixed = state;
        mixed = (mixed ^ (mixed >>> 30)) * 0xBF58476D1CE4E5B9L;
        mixed = (mixed ^ (mixed >>> 27)) * 0x94D049BB133111EBL;
        return mixed ^ (mixed >>> 31);
    }

    /** Some number from low to high, both of them too. */
    int between(int low, int high) {
        return low + (int) Math.floorMod(nextLong(), (long) high - low + 1);
    }

    /** Different places below length, by rising numbers. */
    int[] places(int count, int length) {
        boolean[] taken = new boolean[length];
        for (int k = 0; k < count; k++) {
            int place = between(0, length - 1);
            while (taken[place]) {
                place = (place + 1) % length;
            }
            taken[place] = true;
        }
        int[] row = new int[count];
        int found = 0;
        for (int i = 0; i < length; i++) {
            if (taken[i]) {
                row[found++] = i;
            }
        }
        return row;
    }
}
