/** The sentences of promises 8 to 14 that name a boundary: one test for each. */
public final class BoundaryRowsTest {
    private static final int MAX = Integer.MAX_VALUE;
    private static final int MIN = Integer.MIN_VALUE;

    public static void main(String[] args) {
        Due due = new Due();
        due.run(BoundaryRowsTest::appendRows);
        due.run(BoundaryRowsTest::appendValue);
        due.run(BoundaryRowsTest::appendFull);
        due.run(BoundaryRowsTest::seriesRows);
        due.run(BoundaryRowsTest::seriesFirst);
        due.run(BoundaryRowsTest::seriesStep);
        due.run(BoundaryRowsTest::seriesCount);
        due.run(BoundaryRowsTest::seriesWrapsAround);
        due.run(BoundaryRowsTest::seriesFull);
        due.run(BoundaryRowsTest::appendRowRows);
        due.run(BoundaryRowsTest::appendRowSame);
        due.run(BoundaryRowsTest::appendRowAsBefore);
        due.run(BoundaryRowsTest::appendRowEmpty);
        due.run(BoundaryRowsTest::appendRowFull);
        due.run(BoundaryRowsTest::setByteRows);
        due.run(BoundaryRowsTest::setByteIndex);
        due.run(BoundaryRowsTest::setByteValue);
        due.run(BoundaryRowsTest::truncateRows);
        due.run(BoundaryRowsTest::truncateLength);
        due.run(BoundaryRowsTest::truncateKeepsTheFirst);
        due.run(BoundaryRowsTest::truncateReturns);
        due.run(BoundaryRowsTest::lengthRows);
        due.run(BoundaryRowsTest::lengthReturns);
        due.run(BoundaryRowsTest::byteAtRows);
        due.run(BoundaryRowsTest::byteAtIndex);
        due.run(BoundaryRowsTest::byteAtReturns);
        due.finish();
    }

    private static void appendRows(Due due) {
        due.sentence("8: row: 0 to 3; IndexOutOfBoundsException if there is no such row");
        Refusals refusals = new Refusals(due, Labs::withRows);
        for (int row : Labs.NO_ROWS) {
            refusals.index("append to row " + row, lab -> lab.append(row, 0));
            refusals.index("append of 256 to row " + row, lab -> lab.append(row, 256));
        }
        ChecksumLab lab = new ChecksumLab();
        for (int row = 0; row < 4; row++) {
            due.answer("append", lab.append(row, row), 1);
            for (int other = 0; other < 4; other++) {
                due.answer("length of row " + other, lab.length(other), other <= row ? 1 : 0);
            }
        }
    }

    private static void appendValue(Due due) {
        due.sentence("8: value: 0 to 255; IllegalArgumentException if value is out of range");
        ChecksumLab lab = new ChecksumLab();
        due.answer("append of 0", lab.append(0, 0), 1);
        due.answer("append of 255", lab.append(0, 255), 2);
        due.answer("append of 128", lab.append(0, 128), 3);
        due.same("the row", Picture.ofRow(lab, 0), Picture.ofBytes(0, 255, 128));
        Refusals refusals = new Refusals(due, Labs::withRows);
        for (int row = 0; row < 4; row++) {
            int any = row;
            for (int bad : new int[] {-1, 256, -128, 257, 511, 512, MIN, MAX}) {
                refusals.argument("append of " + bad + " to row " + row, again -> again.append(any, bad));
            }
        }
    }

    private static void appendFull(Due due) {
        due.sentence("8: IllegalStateException if the row has 256 bytes already");
        ChecksumLab lab = new ChecksumLab();
        for (int count = 1; count <= 256; count++) {
            due.answer("append", lab.append(1, 256 - count), count);
        }
        due.state("the 257th", () -> lab.append(1, 0));
        due.state("the 257th again", () -> lab.append(1, 255));
        due.answer("length", lab.length(1), 256);
        due.answer("the last byte", lab.byteAt(1, 255), 0);
        due.answer("room again", lab.truncate(1, 255), 1);
        due.answer("the 256th again", lab.append(1, 77), 256);
        due.answer("the last byte again", lab.byteAt(1, 255), 77);
        Refusals refusals = new Refusals(due, Labs::withRows);
        refusals.state("append to a full row", again -> again.append(2, 0));
        refusals.argument("append of 256 to a full row", again -> again.append(2, 256));
    }

    private static void seriesRows(Due due) {
        due.sentence("9: row: 0 to 3; IndexOutOfBoundsException if there is no such row");
        Refusals refusals = new Refusals(due, Labs::withRows);
        for (int row : Labs.NO_ROWS) {
            refusals.index("a series to row " + row, lab -> lab.appendSeries(row, 0, 0, 1));
            refusals.index("a series to row " + row + " from 256", lab -> lab.appendSeries(row, 256, 0, 1));
            refusals.index("a series to row " + row + " by 256", lab -> lab.appendSeries(row, 0, 256, 1));
            refusals.index("a series to row " + row + " of 257", lab -> lab.appendSeries(row, 0, 0, 257));
        }
        ChecksumLab lab = new ChecksumLab();
        for (int row = 0; row < 4; row++) {
            due.answer("a series", lab.appendSeries(row, row, 1, 2), 2);
        }
        for (int row = 0; row < 4; row++) {
            due.same("row " + row, Picture.ofRow(lab, row), Picture.ofBytes(row, row + 1));
        }
    }

    private static void seriesFirst(Due due) {
        due.sentence("9: first: 0 to 255; IllegalArgumentException if it is out of range");
        ChecksumLab lab = new ChecksumLab();
        due.answer("from 0", lab.appendSeries(0, 0, 0, 1), 1);
        due.answer("from 255", lab.appendSeries(0, 255, 0, 1), 2);
        due.same("the row", Picture.ofRow(lab, 0), Picture.ofBytes(0, 255));
        Refusals refusals = new Refusals(due, Labs::withRows);
        for (int bad : Labs.NO_BYTES) {
            refusals.argument("from " + bad, again -> again.appendSeries(1, bad, 1, 3));
            refusals.argument("from " + bad + " to a full row", again -> again.appendSeries(2, bad, 1, 3));
        }
    }

    private static void seriesStep(Due due) {
        due.sentence("9: step: 0 to 255; IllegalArgumentException if it is out of range");
        ChecksumLab lab = new ChecksumLab();
        due.answer("by 0", lab.appendSeries(0, 9, 0, 3), 3);
        due.answer("by 255", lab.appendSeries(0, 9, 255, 3), 6);
        due.same("the row", Picture.ofRow(lab, 0), Picture.ofBytes(9, 9, 9, 9, 8, 7));
        Refusals refusals = new Refusals(due, Labs::withRows);
        for (int bad : Labs.NO_BYTES) {
            refusals.argument("by " + bad, again -> again.appendSeries(1, 1, bad, 3));
            refusals.argument("by " + bad + ", one byte", again -> again.appendSeries(1, 1, bad, 1));
            refusals.argument("by " + bad + " to a full row", again -> again.appendSeries(2, 1, bad, 1));
        }
    }

    private static void seriesCount(Due due) {
        due.sentence("9: count: 1 to 256; IllegalArgumentException if it is out of range");
        ChecksumLab lab = new ChecksumLab();
        due.answer("a series of 1", lab.appendSeries(0, 5, 6, 1), 1);
        due.same("the row", Picture.ofRow(lab, 0), Picture.ofBytes(5));
        due.answer("a series of 256", lab.appendSeries(1, 5, 6, 256), 256);
        due.answer("the last byte", lab.byteAt(1, 255), (5 + 6 * 255) % 256);
        Refusals refusals = new Refusals(due, Labs::withRows);
        for (int bad : new int[] {0, -1, 257, MIN, MAX}) {
            refusals.argument("a series of " + bad, again -> again.appendSeries(1, 0, 0, bad));
            refusals.argument("a series of " + bad + " to three bytes", again -> again.appendSeries(0, 0, 0, bad));
            refusals.argument("a series of " + bad + " to a full row", again -> again.appendSeries(2, 0, 0, bad));
        }
    }

    private static void seriesWrapsAround(Due due) {
        due.sentence("9: the remainders when they are divided by 256");
        int[][] series = {{255, 1, 2}, {255, 255, 256}, {254, 1, 5}, {0, 128, 7}, {1, 255, 256}, {200, 77, 256},
            {0, 0, 256}, {255, 0, 256}, {0, 1, 256}};
        for (int[] one : series) {
            ChecksumLab lab = new ChecksumLab();
            due.answer("a series", lab.appendSeries(2, one[0], one[1], one[2]), one[2]);
            due.same("from " + one[0] + " by " + one[1], Picture.ofRow(lab, 2),
                    Picture.ofBytes(Picture.series(one[0], one[1], one[2])));
        }
    }

    private static void seriesFull(Due due) {
        due.sentence("9: IllegalStateException if the row would have more than 256 bytes; none is appended then");
        for (int size : new int[] {1, 128, 255, 256}) {
            ChecksumLab lab = new ChecksumLab();
            lab.appendSeries(3, 1, 1, size);
            due.state("one byte too many to " + size, () -> lab.appendSeries(3, 7, 0, 257 - size));
            due.state("256 bytes to " + size, () -> lab.appendSeries(3, 7, 0, 256));
            due.answer("length after it", lab.length(3), size);
            due.answer("the last byte after it", lab.byteAt(3, size - 1), size % 256);
            due.index("no byte behind it", () -> lab.byteAt(3, size));
            if (size < 256) {
                due.answer("as many as there is room for", lab.appendSeries(3, 7, 0, 256 - size), 256);
                due.answer("the byte before them", lab.byteAt(3, size - 1), size);
                due.answer("the first of them", lab.byteAt(3, size), 7);
                due.answer("the last of them", lab.byteAt(3, 255), 7);
            }
        }
        Refusals refusals = new Refusals(due, Labs::withRows);
        refusals.state("254 bytes to three", lab -> lab.appendSeries(0, 1, 1, 254));
        refusals.state("a byte to a full row", lab -> lab.appendSeries(2, 1, 1, 1));
        refusals.state("128 bytes to 129", lab -> lab.appendSeries(3, 1, 1, 128));
    }

    private static void appendRowRows(Due due) {
        due.sentence("10: row and other: 0 to 3; IndexOutOfBoundsException if there is no such row");
        Refusals refusals = new Refusals(due, Labs::withRows);
        for (int bad : Labs.NO_ROWS) {
            for (int row = 0; row < 4; row++) {
                int there = row;
                refusals.index("row " + bad + " and " + row, lab -> lab.appendRow(bad, there));
                refusals.index("row " + row + " and " + bad, lab -> lab.appendRow(there, bad));
            }
            refusals.index("row " + bad + " and itself", lab -> lab.appendRow(bad, bad));
        }
        for (int row = 0; row < 4; row++) {
            for (int other = 0; other < 4; other++) {
                ChecksumLab lab = new ChecksumLab();
                lab.append(other, 50 + other);
                due.answer("row " + other + " to " + row, lab.appendRow(row, other), row == other ? 2 : 1);
                due.answer("its last byte", lab.byteAt(row, lab.length(row) - 1), 50 + other);
            }
        }
    }

    private static void appendRowSame(Due due) {
        due.sentence("10: other may be the same row");
        for (int size : new int[] {0, 1, 2, 127, 128}) {
            ChecksumLab lab = new ChecksumLab();
            if (size > 0) {
                lab.appendSeries(1, 3, 5, size);
            }
            due.answer(size + " bytes to themselves", lab.appendRow(1, 1), 2 * size);
            for (int index = 0; index < 2 * size; index++) {
                due.answer("byteAt " + index, lab.byteAt(1, index), (3 + 5 * (index % size)) % 256);
            }
        }
        Refusals refusals = new Refusals(due, Labs::withRows);
        refusals.state("129 bytes to themselves", lab -> lab.appendRow(3, 3));
        refusals.state("256 bytes to themselves", lab -> lab.appendRow(2, 2));
    }

    private static void appendRowAsBefore(Due due) {
        due.sentence("10: all bytes of a row, as they are before the call");
        ChecksumLab lab = new ChecksumLab();
        lab.appendSeries(0, 1, 1, 3);
        lab.appendSeries(1, 8, 1, 2);
        due.answer("a row to another", lab.appendRow(0, 1), 5);
        lab.setByte(1, 0, 99);
        lab.append(1, 98);
        due.same("the row does not follow the other", Picture.ofRow(lab, 0), Picture.ofBytes(1, 2, 3, 8, 9));
        lab.setByte(0, 3, 97);
        due.same("nor the other the row", Picture.ofRow(lab, 1), Picture.ofBytes(99, 9, 98));
        due.answer("a row to itself", lab.appendRow(1, 1), 6);
        lab.setByte(1, 0, 1);
        due.same("its second half does not follow the first", Picture.ofRow(lab, 1),
                Picture.ofBytes(1, 9, 98, 99, 9, 98));
        lab.truncate(0, 1);
        due.answer("a shortened row to another", lab.appendRow(1, 0), 7);
        due.answer("its only byte", lab.byteAt(1, 6), 1);
    }

    private static void appendRowEmpty(Due due) {
        due.sentence("10: an empty row appends nothing, also to a full row");
        ChecksumLab lab = Labs.withRows();
        String before = Picture.of(lab);
        due.answer("to three bytes", lab.appendRow(0, 1), 3);
        due.answer("to a full row", lab.appendRow(2, 1), 256);
        due.answer("to itself", lab.appendRow(1, 1), 0);
        due.same("after it", Picture.of(lab), before);
        due.answer("a full row to an empty one", lab.appendRow(1, 2), 256);
        due.answer("its sum", lab.sum(0, 1), lab.sum(0, 2));
    }

    private static void appendRowFull(Due due) {
        due.sentence("10: IllegalStateException if the row would have more than 256 bytes; none is appended then");
        for (int size : new int[] {1, 100, 128, 255}) {
            ChecksumLab lab = new ChecksumLab();
            lab.appendSeries(0, 1, 1, size);
            lab.appendSeries(1, 9, 0, 256 - size);
            lab.appendSeries(2, 8, 0, 257 - size);
            due.state("one byte too many to " + size, () -> lab.appendRow(0, 2));
            due.answer("length after it", lab.length(0), size);
            due.index("no byte behind it", () -> lab.byteAt(0, size));
            due.answer("length of the other", lab.length(2), 257 - size);
            due.answer("as many as there is room for", lab.appendRow(0, 1), 256);
            due.answer("the byte before them", lab.byteAt(0, size - 1), size);
            due.answer("the first of them", lab.byteAt(0, size), 9);
            due.answer("the last of them", lab.byteAt(0, 255), 9);
        }
        Refusals refusals = new Refusals(due, Labs::withRows);
        refusals.state("three bytes to a full row", lab -> lab.appendRow(2, 0));
        refusals.state("a full row to three bytes", lab -> lab.appendRow(0, 2));
        refusals.state("129 bytes to a full row", lab -> lab.appendRow(2, 3));
        refusals.index("no row to a full row", lab -> lab.appendRow(2, -1));
    }

    private static void setByteRows(Due due) {
        due.sentence("11: row: 0 to 3; IndexOutOfBoundsException if there is no such row");
        Refusals refusals = new Refusals(due, Labs::withRows);
        for (int row : Labs.NO_ROWS) {
            refusals.index("setByte of row " + row, lab -> lab.setByte(row, 0, 1));
            refusals.index("setByte of row " + row + " to 256", lab -> lab.setByte(row, 0, 256));
        }
        ChecksumLab lab = new ChecksumLab();
        for (int row = 0; row < 4; row++) {
            lab.append(row, 60 + row);
        }
        for (int row = 0; row < 4; row++) {
            due.answer("setByte of row " + row, lab.setByte(row, 0, row), 60 + row);
            due.same("row " + row, Picture.ofRow(lab, row), Picture.ofBytes(row));
        }
    }

    private static void setByteIndex(Due due) {
        due.sentence("11: index: 0 to the length of the row - 1; IndexOutOfBoundsException if there is none such");
        ChecksumLab lab = Labs.withRows();
        due.answer("the first of three", lab.setByte(0, 0, 1), 10);
        due.answer("the last of three", lab.setByte(0, 2, 3), 30);
        due.same("the three", Picture.ofRow(lab, 0), Picture.ofBytes(1, 20, 3));
        due.answer("the first of 256", lab.setByte(2, 0, 1), 3);
        due.answer("the last of 256", lab.setByte(2, 255, 2), (3 + 7 * 255) % 256);
        due.answer("the last of 256 again", lab.setByte(2, 255, 2), 2);
        Refusals refusals = new Refusals(due, Labs::withRows);
        for (int index : new int[] {-1, 3, 4, 255, 256, MIN, MAX}) {
            refusals.index("index " + index + " of three", again -> again.setByte(0, index, 1));
            refusals.index("index " + index + " of three, and 256", again -> again.setByte(0, index, 256));
            refusals.index("index " + index + " of none", again -> again.setByte(1, index, 1));
        }
        for (int index : new int[] {-1, 256, 257, MIN, MAX}) {
            refusals.index("index " + index + " of 256", again -> again.setByte(2, index, 1));
        }
        refusals.index("index 0 of none", again -> again.setByte(1, 0, 1));
        lab.truncate(0, 1);
        due.index("an index that was there", () -> lab.setByte(0, 1, 5));
    }

    private static void setByteValue(Due due) {
        due.sentence("11: value: 0 to 255; IllegalArgumentException if value is out of range");
        ChecksumLab lab = Labs.withRows();
        due.answer("to 0", lab.setByte(0, 1, 0), 20);
        due.answer("to 255", lab.setByte(0, 1, 255), 0);
        due.answer("to 128", lab.setByte(0, 1, 128), 255);
        due.answer("to itself", lab.setByte(0, 1, 128), 128);
        due.same("the row", Picture.ofRow(lab, 0), Picture.ofBytes(10, 128, 30));
        Refusals refusals = new Refusals(due, Labs::withRows);
        for (int bad : Labs.NO_BYTES) {
            refusals.argument("to " + bad, again -> again.setByte(0, 0, bad));
            refusals.argument("the last of 256 to " + bad, again -> again.setByte(2, 255, bad));
        }
    }

    private static void truncateRows(Due due) {
        due.sentence("12: row: 0 to 3; IndexOutOfBoundsException if there is no such row");
        Refusals refusals = new Refusals(due, Labs::withRows);
        for (int row : Labs.NO_ROWS) {
            refusals.index("truncate of row " + row, lab -> lab.truncate(row, 0));
            refusals.index("truncate of row " + row + " to -1", lab -> lab.truncate(row, -1));
            refusals.index("truncate of row " + row + " to 257", lab -> lab.truncate(row, 257));
        }
        ChecksumLab lab = new ChecksumLab();
        for (int row = 0; row < 4; row++) {
            lab.appendSeries(row, 0, 1, 4);
        }
        for (int row = 0; row < 4; row++) {
            due.answer("truncate of row " + row, lab.truncate(row, row), 4 - row);
        }
        for (int row = 0; row < 4; row++) {
            due.answer("length of row " + row, lab.length(row), row);
        }
    }

    private static void truncateLength(Due due) {
        due.sentence("12: length: 0 to the length of the row; IllegalArgumentException if it is out of range");
        Refusals refusals = new Refusals(due, Labs::withRows);
        for (int length : new int[] {-1, 4, 256, 257, MIN, MAX}) {
            refusals.argument("three bytes to " + length, lab -> lab.truncate(0, length));
        }
        for (int length : new int[] {-1, 1, 256, MIN, MAX}) {
            refusals.argument("no bytes to " + length, lab -> lab.truncate(1, length));
        }
        for (int length : new int[] {-1, 257, MIN, MAX}) {
            refusals.argument("256 bytes to " + length, lab -> lab.truncate(2, length));
        }
        ChecksumLab lab = Labs.withRows();
        String before = Picture.of(lab);
        due.answer("three bytes to three", lab.truncate(0, 3), 0);
        due.answer("no bytes to none", lab.truncate(1, 0), 0);
        due.answer("256 bytes to 256", lab.truncate(2, 256), 0);
        due.same("after it", Picture.of(lab), before);
        due.answer("three bytes to none", lab.truncate(0, 0), 3);
        due.answer("256 bytes to none", lab.truncate(2, 0), 256);
        due.argument("a length that was there", () -> lab.truncate(0, 3));
    }

    private static void truncateKeepsTheFirst(Due due) {
        due.sentence("12: only its first bytes stay");
        ChecksumLab lab = Labs.withRows();
        lab.truncate(0, 2);
        due.same("two of three", Picture.ofRow(lab, 0), Picture.ofBytes(10, 20));
        due.index("the third", () -> lab.byteAt(0, 2));
        due.answer("another third", lab.append(0, 7), 3);
        due.same("three again", Picture.ofRow(lab, 0), Picture.ofBytes(10, 20, 7));
        lab.truncate(2, 1);
        due.same("one of 256", Picture.ofRow(lab, 2), Picture.ofBytes(3));
        due.answer("a full row again", lab.appendSeries(2, 9, 0, 255), 256);
        due.answer("its last byte", lab.byteAt(2, 255), 9);
        lab.truncate(3, 0);
        due.answer("fletcher of none", lab.fletcher(3), 0);
        due.answer("adler of none", lab.adler(3), 1);
        due.answer("sum of none", lab.sum(0, 3), lab.sum(0, 1));
        due.answer("the row as another's", lab.appendRow(0, 3), 3);
    }

    private static void truncateReturns(Due due) {
        due.sentence("12: returns the number of bytes removed");
        ChecksumLab lab = new ChecksumLab();
        lab.appendSeries(0, 0, 1, 256);
        int length = 256;
        for (int removed : new int[] {0, 1, 2, 100, 0, 152, 1, 0}) {
            length -= removed;
            due.answer("truncate to " + length, lab.truncate(0, length), removed);
            due.answer("length after it", lab.length(0), length);
        }
    }

    private static void lengthRows(Due due) {
        due.sentence("13: row: 0 to 3; IndexOutOfBoundsException if there is no such row");
        Refusals refusals = new Refusals(due, Labs::withRows);
        for (int row : Labs.NO_ROWS) {
            refusals.index("length of row " + row, lab -> lab.length(row));
        }
        ChecksumLab lab = Labs.withRows();
        int[] lengths = {3, 0, 256, 129};
        for (int row = 0; row < 4; row++) {
            due.answer("length of row " + row, lab.length(row), lengths[row]);
        }
    }

    private static void lengthReturns(Due due) {
        due.sentence("13: returns the number of bytes, 0 to 256");
        ChecksumLab lab = new ChecksumLab();
        due.answer("of a new row", lab.length(2), 0);
        lab.append(2, 0);
        due.answer("of one byte", lab.length(2), 1);
        lab.appendRow(2, 2);
        due.answer("of two bytes", lab.length(2), 2);
        lab.appendSeries(2, 0, 0, 254);
        due.answer("of a full row", lab.length(2), 256);
        lab.setByte(2, 255, 1);
        due.answer("of a full row with a byte set", lab.length(2), 256);
        lab.truncate(2, 255);
        due.answer("of a row with one byte less", lab.length(2), 255);
        lab.truncate(2, 0);
        due.answer("of a row without bytes", lab.length(2), 0);
    }

    private static void byteAtRows(Due due) {
        due.sentence("14: row: 0 to 3; IndexOutOfBoundsException if there is no such row");
        Refusals refusals = new Refusals(due, Labs::withRows);
        for (int row : Labs.NO_ROWS) {
            refusals.index("byteAt of row " + row, lab -> lab.byteAt(row, 0));
            refusals.index("byteAt of row " + row + ", -1", lab -> lab.byteAt(row, -1));
        }
        ChecksumLab lab = new ChecksumLab();
        for (int row = 0; row < 4; row++) {
            lab.append(row, 70 + row);
        }
        for (int row = 0; row < 4; row++) {
            due.answer("byteAt of row " + row, lab.byteAt(row, 0), 70 + row);
        }
    }

    private static void byteAtIndex(Due due) {
        due.sentence("14: index: 0 to the length of the row - 1; IndexOutOfBoundsException if there is none such");
        ChecksumLab lab = Labs.withRows();
        due.answer("the first of three", lab.byteAt(0, 0), 10);
        due.answer("the last of three", lab.byteAt(0, 2), 30);
        due.answer("the first of 256", lab.byteAt(2, 0), 3);
        due.answer("the last of 256", lab.byteAt(2, 255), (3 + 7 * 255) % 256);
        Refusals refusals = new Refusals(due, Labs::withRows);
        for (int index : new int[] {-1, 3, 4, 255, 256, MIN, MAX}) {
            refusals.index("index " + index + " of three", again -> again.byteAt(0, index));
            refusals.index("index " + index + " of none", again -> again.byteAt(1, index));
        }
        for (int index : new int[] {-1, 256, 257, MIN, MAX}) {
            refusals.index("index " + index + " of 256", again -> again.byteAt(2, index));
        }
        refusals.index("index 0 of none", again -> again.byteAt(1, 0));
        lab.truncate(2, 255);
        due.index("an index that was there", () -> lab.byteAt(2, 255));
        due.answer("the index before it", lab.byteAt(2, 254), (3 + 7 * 254) % 256);
    }

    private static void byteAtReturns(Due due) {
        due.sentence("14: returns the byte, 0 to 255");
        ChecksumLab lab = new ChecksumLab();
        lab.appendSeries(3, 255, 255, 256);
        for (int index = 0; index < 256; index++) {
            due.answer("byteAt " + index, lab.byteAt(3, index), 255 - index);
        }
    }
}
