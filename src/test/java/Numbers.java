/** A fixed sequence of numbers that look random; the same in every run. */
final class Numbers {
    private long state;

    Numbers(long seed) {
        state = seed;
    }

    int any() {
        state = state * 6364136223846793005L + 1442695040888963407L;
        return (int) (state >>> 32);
    }

    long anyLong() {
        return ((long) any() << 32) ^ any();
    }

    int below(int limit) {
        return Integer.remainderUnsigned(any(), limit);
    }

    int withBits(int width) {
        return any() >>> (32 - width);
    }

    boolean coin() {
        return below(2) == 1;
    }
}
