/** Objects in the states that the boundary tests begin with, and numbers just outside of what is allowed. */
final class Labs {
    static final int MAX = Integer.MAX_VALUE;
    static final int MIN = Integer.MIN_VALUE;
    static final int[] NO_ROWS = {-1, 4, MIN, MAX};
    static final int[] NO_BYTES = {-1, 256, MIN, MAX};
    static final int[] NO_LENGTHS = {-1, MIN};
    static final int[] WIDTHS = {1, 2, 7, 8, 9, 16, 31, 32};

    private Labs() {
    }

    static ChecksumLab withModels(int count) {
        ChecksumLab lab = new ChecksumLab();
        int[] widths = {32, 8, 1, 16, 31, 5};
        for (int model = 0; model < count; model++) {
            int all = allBits(widths[model]);
            lab.define(widths[model], 0x04C11DB7 & all | 1, all, model % 2 == 0, model % 3 == 0, 0x2A5A5A5A & all);
        }
        return lab;
    }

    /** Row 0 holds 10, 20, 30; row 1 is empty; row 2 is full; row 3 has one byte more than half of that. */
    static ChecksumLab withRows() {
        ChecksumLab lab = withModels(2);
        lab.appendSeries(0, 10, 10, 3);
        lab.appendSeries(2, 3, 7, 256);
        lab.appendSeries(3, 200, 3, 129);
        return lab;
    }

    static ChecksumLab withModelsAndRows() {
        ChecksumLab lab = withModels(6);
        lab.appendSeries(0, 10, 10, 3);
        lab.appendSeries(2, 3, 7, 256);
        lab.appendSeries(3, 200, 3, 129);
        return lab;
    }

    static int allBits(int width) {
        return -1 >>> (32 - width);
    }

    /** Ints that are not numbers with this many bits, which are fewer than 32. */
    static int[] notNumbers(int width) {
        return new int[] {1 << width, 1 << width | 1, -1, MIN, MIN | 1};
    }
}
