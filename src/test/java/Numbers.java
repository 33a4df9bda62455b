/** A row of numbers without a pattern, the same in every run. */
final class Numbers {
    private long state;

    Numbers(long start) {
        state = start;
    }

    int below(int bound) {
        state = state * 6364136223846793005L + 1442695040888963407L;
        return (int) Long.remainderUnsigned(state >>> 33, bound);
    }
}
