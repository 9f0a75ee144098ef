/** The same numbers in every run: a generator that is written out here, so that no random source is used. */
final class Numbers {
    private long state;

    Numbers(long start) {
        state = start * 2 + 1;
    }

    int next() {
        state = state * 6364136223846793005L + 1442695040888963407L;
        return (int) (state >>> 32);
    }

    int below(int bound) {
        return Math.floorMod(next() >>> 4, bound);
    }

    byte[] row(int length) {
        byte[] row = new byte[length];
        for (int k = 0; k < length; k++) {
            row[k] = (byte) (next() >>> 7);
        }
        return row;
    }
}
