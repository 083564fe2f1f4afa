/** Numbers that look thrown but are the same in every run. */
final class Dice {
    private long state;

    Dice(long seed) {
        state = seed * 0x9E3779B97F4A7C15L + 1;
    }

    /** A number from low to high, both among them. */
    int from(int low, int high) {
        state = state * 6364136223846793005L + 1442695040888963407L;
        long bits = (state >>> 33) ^ (state >>> 17 & 0x7FFF);
        return low + (int) (bits % (high - low + 1L));
    }

    boolean once(int in) {
        return from(1, in) == 1;
    }
}
