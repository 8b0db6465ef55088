/** A row of numbers that look mixed and are the same in every run. */
final class Numbers {
    private long state;

    Numbers(long seed) {
        state = seed * 2 + 1;
    }

    int between(int least, int most) {
        state = state * 6364136223846793005L + 1442695040888963407L;
        return least + (int) ((state >>> 33) % (most - least + 1L));
    }
}
