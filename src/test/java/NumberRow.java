/** Numbers that look random, and are the same in each run of the tests. */
final class NumberRow {
    private long state;

    NumberRow(int seed) {
        state = seed * 2862933555777941757L + 3037000493L;
    }

    int below(int bound) {
        state = state * 6364136223846793005L + 1442695040888963407L;
        return (int) ((state >>> 33) % bound);
    }
}
