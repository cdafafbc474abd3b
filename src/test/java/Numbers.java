/** Numbers that look random and are the same in every run. */
final class Numbers {
    private long state;

    Numbers(long seed) {
        state = seed * 0x9E3779B97F4A7C15L + 1L;
    }

    /** A number from 0 to bound - 1. */
    int below(int bound) {
        state = state * 6364136223846793005L + 1442695040888963407L;
        return (int) ((state >>> 33) % bound);
    }

    int literal(int variables) {
        int v = 1 + below(variables);
        return below(2) == 0 ? v : -v;
    }
}
