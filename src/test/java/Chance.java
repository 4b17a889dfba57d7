/** Numbers that look like chance, but are the same for the same seed. */
final class Chance {
    private long state;

    Chance(long seed) {
        state = seed * 0x9E3779B97F4A7C15L + 0x632BE59BD9B4E019L;
    }

    /** 0 to bound - 1. */
    int below(int bound) {
        state = state * 6364136223846793005L + 1442695040888963407L;
        int mixed = (int) ((state ^ state >>> 29) >>> 17) & 0x7FFFFFFF;
        return mixed % bound;
    }

    boolean one(int of) {
        return below(of) == 0;
    }

    int of(int... values) {
        return values[below(values.length)];
    }

    int between(int first, int last) {
        return first + below(last - first + 1);
    }
}
