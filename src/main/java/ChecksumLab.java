/**
 * A laboratory of checksums: cyclic redundancy checks with any generator
 * polynomial up to 32 bits, Fletcher and Adler sums.
 */
public final class ChecksumLab {
    /** Returned if there is no such thing. */
    public static final int NONE = -1;

    private static final int MODEL_LIMIT = 6;
    private static final int WIDTH_LIMIT = 32;
    private static final int PERIOD_LIMIT = 70000;
    private static final int ROW_COUNT = 4;
    private static final int ROW_LIMIT = 256;
    private static final int BYTE_LIMIT = 255;
    private static final int BITS_OF_BYTE = 8;
    private static final int EXPONENT_BITS = 63;
    private static final int WRONG_BIT_LENGTH_LIMIT = 4000;
    private static final int CHECK_FIRST = 49;
    private static final int CHECK_LAST = 57;
    private static final int FLETCHER_BASE = 255;
    private static final int FLETCHER_FACTOR = 256;
    private static final int ADLER_BASE = 65521;
    private static final int ADLER_SHIFT = 16;
    private static final int ADLER_MASK = 65535;

    private final Model[] defined;
    private int definedCount;
    private final int[][] rows;
    private final int[] sizes;

    /** Makes a laboratory with empty rows and without models. */
    public ChecksumLab() {
        defined = new Model[MODEL_LIMIT];
        definedCount = 0;
        rows = new int[ROW_COUNT][ROW_LIMIT];
        sizes = new int[ROW_COUNT];
    }

    /** Defines a model and returns its number. */
    public int define(int width, int poly, int init, boolean reflectIn, boolean reflectOut, int xorOut)
            throws IllegalArgumentException, IllegalStateException {
        if (width < 1 || width > WIDTH_LIMIT) {
            throw new IllegalArgumentException("width is out of range");
        }
        requireNumber(width, poly);
        requireNumber(width, init);
        requireNumber(width, xorOut);
        if (definedCount >= defined.length) {
            throw new IllegalStateException("there are 6 models already");
        }
        int number = definedCount;
        defined[number] = new Model(width, poly, init, reflectIn, reflectOut, xorOut);
        definedCount = number + 1;
        return number;
    }

    /** Returns the number of models. */
    public int models() {
        return definedCount;
    }

    /** Returns the sum of the nine bytes 49 to 57. */
    public int check(int model) throws IndexOutOfBoundsException {
        Model used = findModel(model);
        int register = used.init;
        for (int value = CHECK_FIRST; value <= CHECK_LAST; value++) {
            register = used.takeByte(register, value);
        }
        return used.sumOfRegister(register);
    }

    /** Multiplies two polynomials modulo the polynomial of a model. */
    public int multiply(int model, int a, int b) throws IndexOutOfBoundsException, IllegalArgumentException {
        Model used = findModel(model);
        requireNumber(used.width, a);
        requireNumber(used.width, b);
        return used.product(a, b);
    }

    /** Returns a power of x modulo the polynomial of a model. */
    public int power(int model, long exponent) throws IndexOutOfBoundsException, IllegalArgumentException {
        Model used = findModel(model);
        if (exponent < 0) {
            throw new IllegalArgumentException("exponent is negative");
        }
        return used.powerOfX(exponent);
    }

    /** Returns the smallest exponent from 1 to limit for which power() is 1, or NONE. */
    public int period(int model, int limit) throws IndexOutOfBoundsException, IllegalArgumentException {
        Model used = findModel(model);
        if (limit < 1 || limit > PERIOD_LIMIT) {
            throw new IllegalArgumentException("limit is out of range");
        }
        int value = 1;
        for (int exponent = 1; exponent <= limit; exponent++) {
            value = used.timesX(value);
            if (value == 1) {
                return exponent;
            }
        }
        return NONE;
    }

    /** Appends a byte to a row and returns the new length. */
    public int append(int row, int value)
            throws IndexOutOfBoundsException, IllegalArgumentException, IllegalStateException {
        requireRow(row);
        requireByte(value);
        requireRoom(row, 1);
        rows[row][sizes[row]] = value;
        sizes[row]++;
        return sizes[row];
    }

    /** Appends count bytes, first, first + step and so on modulo 256, and returns the new length. */
    public int appendSeries(int row, int first, int step, int count)
            throws IndexOutOfBoundsException, IllegalArgumentException, IllegalStateException {
        requireRow(row);
        requireByte(first);
        requireByte(step);
        if (count < 1 || count > ROW_LIMIT) {
            throw new IllegalArgumentException("count is out of range");
        }
        requireRoom(row, count);
        int size = sizes[row];
        for (int index = 0; index < count; index++) {
            rows[row][size + index] = (first + index * step) & BYTE_LIMIT;
        }
        sizes[row] = size + count;
        return sizes[row];
    }

    /** Appends all bytes of the row other to a row and returns the new length. */
    public int appendRow(int row, int other) throws IndexOutOfBoundsException, IllegalStateException {
        requireRow(row);
        requireRow(other);
        // The count is taken before anything is appended, since other may be the same row.
        int count = sizes[other];
        requireRoom(row, count);
        int size = sizes[row];
        for (int index = 0; index < count; index++) {
            rows[row][size + index] = rows[other][index];
        }
        sizes[row] = size + count;
        return sizes[row];
    }

    /** Changes a byte of a row and returns the byte before. */
    public int setByte(int row, int index, int value) throws IndexOutOfBoundsException, IllegalArgumentException {
        requireRow(row);
        requireIndex(row, index);
        requireByte(value);
        int before = rows[row][index];
        rows[row][index] = value;
        return before;
    }

    /** Shortens a row to its first bytes and returns the number of bytes removed. */
    public int truncate(int row, int length) throws IndexOutOfBoundsException, IllegalArgumentException {
        requireRow(row);
        int size = sizes[row];
        if (length < 0 || length > size) {
            throw new IllegalArgumentException("length is out of range");
        }
        sizes[row] = length;
        return size - length;
    }

    /** Returns the length of a row. */
    public int length(int row) throws IndexOutOfBoundsException {
        requireRow(row);
        return sizes[row];
    }

    /** Returns a byte of a row. */
    public int byteAt(int row, int index) throws IndexOutOfBoundsException {
        requireRow(row);
        requireIndex(row, index);
        return rows[row][index];
    }

    /** Returns the sum of a row. */
    public int sum(int model, int row) throws IndexOutOfBoundsException {
        Model used = findModel(model);
        requireRow(row);
        return partSum(used, row, 0, sizes[row]);
    }

    /** Returns the sum of the part of a row from the index from to the one before to. */
    public int sumOfPart(int model, int row, int from, int to) throws IndexOutOfBoundsException {
        Model used = findModel(model);
        requireRow(row);
        if (from < 0 || from > to || to > sizes[row]) {
            throw new IndexOutOfBoundsException("from or to is out of range");
        }
        return partSum(used, row, from, to);
    }

    /** Returns the remainder of a whole row by long division. */
    public int remainder(int model, int row) throws IndexOutOfBoundsException {
        Model used = findModel(model);
        requireRow(row);
        int size = sizes[row];
        int rest = 0;
        for (int index = 0; index < size; index++) {
            rest = used.divideByte(rest, rows[row][index]);
        }
        return rest;
    }

    /** Returns the sum of two rows of bytes joined, from their sums alone. */
    public int joined(int model, int first, int second, int length)
            throws IndexOutOfBoundsException, IllegalArgumentException {
        Model used = findModel(model);
        requireNumber(used.width, first);
        requireNumber(used.width, second);
        requireLength(length);
        int moved = used.registerOfSum(first) ^ used.init;
        int shift = used.powerOfX((long) BITS_OF_BYTE * length);
        int register = used.registerOfSum(second) ^ used.product(moved, shift);
        return used.sumOfRegister(register);
    }

    /** Returns the sum of a row of bytes after one byte has changed, from its sum before alone. */
    public int patched(int model, int sum, int behind, int change)
            throws IndexOutOfBoundsException, IllegalArgumentException {
        Model used = findModel(model);
        requireNumber(used.width, sum);
        requireLength(behind);
        requireByte(change);
        // With less than 8 bits the change itself is divided by P first.
        int rest = used.divideByte(0, used.inTakenOrder(change));
        int shift = used.powerOfX((long) BITS_OF_BYTE * behind + used.width);
        int register = used.registerOfSum(sum) ^ used.product(rest, shift);
        return used.sumOfRegister(register);
    }

    /** Returns the smallest number of a bit whose change alone changes the sum by difference, or NONE. */
    public int wrongBit(int model, int difference, int length)
            throws IndexOutOfBoundsException, IllegalArgumentException {
        Model used = findModel(model);
        requireNumber(used.width, difference);
        if (length < 0 || length > WRONG_BIT_LENGTH_LIMIT) {
            throw new IllegalArgumentException("length is out of range");
        }
        int wanted = used.inSumOrder(difference);
        // The last bit changes the register by x^w, which is poly modulo P; each bit before it by x times more.
        int effect = used.poly;
        int found = NONE;
        for (int bit = BITS_OF_BYTE * length - 1; bit >= 0; bit--) {
            if (effect == wanted) {
                found = bit;
            }
            effect = used.timesX(effect);
        }
        return found;
    }

    /** Returns the Fletcher sum of a row. */
    public int fletcher(int row) throws IndexOutOfBoundsException {
        requireRow(row);
        int size = sizes[row];
        int a = 0;
        int b = 0;
        for (int index = 0; index < size; index++) {
            a = (a + rows[row][index]) % FLETCHER_BASE;
            b = (b + a) % FLETCHER_BASE;
        }
        return FLETCHER_FACTOR * b + a;
    }

    /** Returns the Fletcher sum of two rows of bytes joined, from their sums alone. */
    public int fletcherJoined(int first, int second, int length) throws IllegalArgumentException {
        requireFletcher(first);
        requireFletcher(second);
        requireLength(length);
        int a1 = first % FLETCHER_FACTOR;
        int b1 = first / FLETCHER_FACTOR;
        int a2 = second % FLETCHER_FACTOR;
        int b2 = second / FLETCHER_FACTOR;
        int a = (a1 + a2) % FLETCHER_BASE;
        int b = (int) ((b1 + b2 + (long) length * a1) % FLETCHER_BASE);
        return FLETCHER_FACTOR * b + a;
    }

    /** Returns the Adler sum of a row. */
    public int adler(int row) throws IndexOutOfBoundsException {
        requireRow(row);
        int size = sizes[row];
        int a = 1;
        int b = 0;
        for (int index = 0; index < size; index++) {
            a = (a + rows[row][index]) % ADLER_BASE;
            b = (b + a) % ADLER_BASE;
        }
        return adlerSum(a, b);
    }

    /** Returns the Adler sum of two rows of bytes joined, from their sums alone. */
    public int adlerJoined(int first, int second, int length) throws IllegalArgumentException {
        requireAdler(first);
        requireAdler(second);
        requireLength(length);
        long a1 = adlerA(first);
        long a = a1 + adlerA(second) - 1;
        long b = (long) adlerB(first) + adlerB(second) + length * (a1 - 1);
        return adlerSum(a, b);
    }

    /** Rolls an Adler sum on by one byte: returns the Adler sum of the window that begins one byte later. */
    public int adlerRolled(int sum, int window, int out, int in) throws IllegalArgumentException {
        requireAdler(sum);
        if (window < 1) {
            throw new IllegalArgumentException("window is less than 1");
        }
        requireByte(out);
        requireByte(in);
        long a = (long) adlerA(sum) + in - out;
        long b = adlerB(sum) - (long) window * out + a - 1;
        return adlerSum(a, b);
    }

    private Model findModel(int model) {
        if (model < 0 || model >= defined.length || defined[model] == null) {
            throw new IndexOutOfBoundsException("no such model");
        }
        return defined[model];
    }

    private int partSum(Model used, int row, int from, int to) {
        int register = used.init;
        for (int index = from; index < to; index++) {
            register = used.takeByte(register, rows[row][index]);
        }
        return used.sumOfRegister(register);
    }

    private static void requireRow(int row) {
        if (row < 0 || row >= ROW_COUNT) {
            throw new IndexOutOfBoundsException("no such row");
        }
    }

    private void requireIndex(int row, int index) {
        if (index < 0 || index >= sizes[row]) {
            throw new IndexOutOfBoundsException("no such index");
        }
    }

    private void requireRoom(int row, int count) {
        if (count > ROW_LIMIT - sizes[row]) {
            throw new IllegalStateException("the row would have more than 256 bytes");
        }
    }

    private static void requireByte(int value) {
        if (value < 0 || value > BYTE_LIMIT) {
            throw new IllegalArgumentException("not a byte");
        }
    }

    private static void requireLength(int count) {
        if (count < 0) {
            throw new IllegalArgumentException("a negative number of bytes");
        }
    }

    private static void requireNumber(int width, int value) {
        // A shift by 32 would shift by 0, and with 32 bits every int is a number.
        if (width < WIDTH_LIMIT && value >>> width != 0) {
            throw new IllegalArgumentException("not a number with w bits");
        }
    }

    private static void requireFletcher(int sum) {
        if (sum < 0 || sum / FLETCHER_FACTOR >= FLETCHER_BASE || sum % FLETCHER_FACTOR >= FLETCHER_BASE) {
            throw new IllegalArgumentException("not a Fletcher sum");
        }
    }

    private static void requireAdler(int sum) {
        if (adlerA(sum) >= ADLER_BASE || adlerB(sum) >= ADLER_BASE) {
            throw new IllegalArgumentException("not an Adler sum");
        }
    }

    private static int adlerA(int sum) {
        return sum & ADLER_MASK;
    }

    private static int adlerB(int sum) {
        return sum >>> ADLER_SHIFT;
    }

    private static int adlerSum(long a, long b) {
        int low = (int) Math.floorMod(a, (long) ADLER_BASE);
        int high = (int) Math.floorMod(b, (long) ADLER_BASE);
        return (high << ADLER_SHIFT) + low;
    }

    private static int reversed(int value, int bits) {
        int result = 0;
        for (int bit = 0; bit < bits; bit++) {
            result = (result << 1) | ((value >>> bit) & 1);
        }
        return result;
    }

    /** The parameters of a cyclic check, and the arithmetic modulo its polynomial P. */
    private static final class Model {
        final int width;
        final int poly;
        final int init;
        final boolean reflectIn;
        final boolean reflectOut;
        final int xorOut;
        final int mask;
        final int highest;

        Model(int width, int poly, int init, boolean reflectIn, boolean reflectOut, int xorOut) {
            this.width = width;
            this.poly = poly;
            this.init = init;
            this.reflectIn = reflectIn;
            this.reflectOut = reflectOut;
            this.xorOut = xorOut;
            this.mask = -1 >>> (WIDTH_LIMIT - width);
            this.highest = 1 << (width - 1);
        }

        int timesX(int value) {
            int moved = (value << 1) & mask;
            return (value & highest) != 0 ? moved ^ poly : moved;
        }

        int product(int a, int b) {
            int result = 0;
            for (int bit = width - 1; bit >= 0; bit--) {
                result = timesX(result);
                if (((b >>> bit) & 1) == 1) {
                    result ^= a;
                }
            }
            return result;
        }

        int powerOfX(long exponent) {
            int result = 1;
            for (int bit = EXPONENT_BITS - 1; bit >= 0; bit--) {
                result = product(result, result);
                if (((exponent >>> bit) & 1L) == 1L) {
                    result = timesX(result);
                }
            }
            return result;
        }

        int takeBit(int register, int bit) {
            // The highest bit is dropped anyway, so it may hold whether the two bits differ.
            return timesX(register ^ (bit << (width - 1)));
        }

        int takeByte(int register, int value) {
            int ordered = inTakenOrder(value);
            int result = register;
            for (int bit = BITS_OF_BYTE - 1; bit >= 0; bit--) {
                result = takeBit(result, (ordered >>> bit) & 1);
            }
            return result;
        }

        /** One byte of a long division: the next eight coefficients join the rest so far. */
        int divideByte(int rest, int value) {
            int result = rest;
            for (int bit = BITS_OF_BYTE - 1; bit >= 0; bit--) {
                result = timesX(result) ^ ((value >>> bit) & 1);
            }
            return result;
        }

        /** The bits of a byte with the one that the register takes first as the highest. */
        int inTakenOrder(int value) {
            return reflectIn ? reversed(value, BITS_OF_BYTE) : value;
        }

        /** From the order of the register's bits to the order of the sum's bits, and back. */
        int inSumOrder(int value) {
            return reflectOut ? reversed(value, width) : value;
        }

        int sumOfRegister(int register) {
            return inSumOrder(register) ^ xorOut;
        }

        int registerOfSum(int sum) {
            return inSumOrder(sum ^ xorOut);
        }
    }
}
