/** Promises 8 to 14: append, appendSeries, appendRow, setByte, truncate, length, byteAt. */
public final class RowsTest {
    private static final int MAX = Integer.MAX_VALUE;
    private static final int MIN = Integer.MIN_VALUE;
    private static final int[] NO_ROWS = {-1, 4, MIN, MAX};
    private static final int[] NO_BYTES = {-1, 256, MIN, MAX};

    public static void main(String[] args) {
        Due due = new Due();
        append(due);
        appendWrong(due);
        appendSeries(due);
        appendSeriesWrong(due);
        appendRow(due);
        appendRowWrong(due);
        setByte(due);
        setByteWrong(due);
        truncate(due);
        truncateWrong(due);
        lengthAndByteAt(due);
        bytesBehindTheEndAreGone(due);
        due.finish();
    }

    private static void append(Due due) {
        ChecksumLab lab = new ChecksumLab();
        for (int index = 0; index < 256; index++) {
            due.answer("append", lab.append(2, 255 - index), index + 1);
        }
        for (int index = 0; index < 256; index += 5) {
            due.answer("byteAt " + index, lab.byteAt(2, index), 255 - index);
        }
        for (int row = 0; row < 4; row++) {
            due.answer("length of row " + row, lab.length(row), row == 2 ? 256 : 0);
        }
        due.state("append to a full row", () -> lab.append(2, 0));
        due.answer("length after it", lab.length(2), 256);
        due.answer("append to another row", lab.append(3, 7), 1);
        due.answer("append to row 0", lab.append(0, 0), 1);
    }

    private static void appendWrong(Due due) {
        ChecksumLab lab = new ChecksumLab();
        for (int bad : NO_BYTES) {
            due.argument("append of " + bad, () -> lab.append(0, bad));
        }
        for (int row : NO_ROWS) {
            due.index("append to row " + row, () -> lab.append(row, 0));
            due.index("append of a wrong byte to row " + row, () -> lab.append(row, 256));
        }
        due.answer("length after wrong calls", lab.length(0), 0);
        lab.appendSeries(0, 0, 0, 256);
        due.argument("append of a wrong byte to a full row", () -> lab.append(0, 256));
    }

    private static void appendSeries(Due due) {
        ChecksumLab lab = new ChecksumLab();
        lab.append(1, 9);
        due.answer("appendSeries", lab.appendSeries(1, 250, 3, 4), 5);
        expectRow(due, lab, 1, 9, 250, 253, 0, 3);
        due.answer("appendSeries with step 0", lab.appendSeries(1, 7, 0, 2), 7);
        due.answer("appendSeries with step 255", lab.appendSeries(1, 1, 255, 3), 10);
        expectRow(due, lab, 1, 9, 250, 253, 0, 3, 7, 7, 1, 0, 255);
        due.answer("appendSeries of one byte", lab.appendSeries(1, 255, 255, 1), 11);
        due.answer("the one byte", lab.byteAt(1, 10), 255);
        due.answer("appendSeries of 256 bytes", lab.appendSeries(0, 255, 255, 256), 256);
        for (int index = 0; index < 256; index++) {
            due.answer("byteAt " + index, lab.byteAt(0, index), (255 + index * 255) % 256);
        }
        due.answer("appendSeries to the last place", lab.appendSeries(1, 1, 2, 245), 256);
        due.answer("the last byte", lab.byteAt(1, 255), (1 + 2 * 244) % 256);
        due.answer("the byte before the series", lab.byteAt(1, 10), 255);
    }

    private static void appendSeriesWrong(Due due) {
        ChecksumLab lab = new ChecksumLab();
        for (int bad : NO_BYTES) {
            due.argument("first " + bad, () -> lab.appendSeries(0, bad, 0, 1));
            due.argument("step " + bad, () -> lab.appendSeries(0, 0, bad, 1));
        }
        for (int bad : new int[] {0, -1, 257, MIN, MAX}) {
            due.argument("count " + bad, () -> lab.appendSeries(0, 0, 0, bad));
        }
        for (int row : NO_ROWS) {
            due.index("row " + row, () -> lab.appendSeries(row, 0, 0, 1));
            due.index("row and first wrong", () -> lab.appendSeries(row, 256, 0, 1));
            due.index("row and step wrong", () -> lab.appendSeries(row, 0, 256, 1));
            due.index("row and count wrong", () -> lab.appendSeries(row, 0, 0, 257));
        }
        lab.append(0, 8);
        due.state("one byte too many", () -> lab.appendSeries(0, 1, 1, 256));
        expectRow(due, lab, 0, 8);
        due.answer("as many as there is room for", lab.appendSeries(0, 1, 1, 255), 256);
        due.state("one byte to a full row", () -> lab.appendSeries(0, 1, 1, 1));
        due.argument("full and first wrong", () -> lab.appendSeries(0, -1, 1, 1));
        due.argument("full and step wrong", () -> lab.appendSeries(0, 1, 256, 1));
        due.argument("full and count wrong", () -> lab.appendSeries(0, 1, 1, 0));
        due.argument("full and count 257", () -> lab.appendSeries(0, 1, 1, 257));
        due.answer("length after wrong calls", lab.length(0), 256);
        due.answer("a byte after wrong calls", lab.byteAt(0, 255), 255);
    }

    private static void appendRow(Due due) {
        ChecksumLab lab = new ChecksumLab();
        due.answer("an empty row to an empty row", lab.appendRow(0, 1), 0);
        due.answer("an empty row to itself", lab.appendRow(0, 0), 0);
        lab.appendSeries(0, 1, 1, 3);
        lab.appendSeries(3, 10, 10, 2);
        due.answer("a row to another", lab.appendRow(3, 0), 5);
        expectRow(due, lab, 3, 10, 20, 1, 2, 3);
        expectRow(due, lab, 0, 1, 2, 3);
        due.answer("a row to itself", lab.appendRow(0, 0), 6);
        expectRow(due, lab, 0, 1, 2, 3, 1, 2, 3);
        due.answer("an empty row", lab.appendRow(0, 1), 6);
        lab.setByte(3, 2, 99);
        expectRow(due, lab, 0, 1, 2, 3, 1, 2, 3);
        lab.truncate(0, 0);
        lab.appendSeries(0, 0, 1, 128);
        due.answer("128 bytes to themselves", lab.appendRow(0, 0), 256);
        due.answer("the last byte", lab.byteAt(0, 255), 127);
        due.answer("the first byte of the copy", lab.byteAt(0, 128), 0);
        due.answer("an empty row to a full one", lab.appendRow(0, 1), 256);
        due.answer("a full row to an empty one", lab.appendRow(1, 0), 256);
        due.answer("the last byte", lab.byteAt(1, 255), 127);
    }

    private static void appendRowWrong(Due due) {
        ChecksumLab lab = new ChecksumLab();
        lab.appendSeries(0, 0, 1, 129);
        lab.appendSeries(1, 5, 0, 128);
        due.state("129 bytes to themselves", () -> lab.appendRow(0, 0));
        due.state("128 bytes to 129", () -> lab.appendRow(0, 1));
        due.state("129 bytes to 128", () -> lab.appendRow(1, 0));
        due.answer("length of row 0", lab.length(0), 129);
        due.answer("length of row 1", lab.length(1), 128);
        for (int row : NO_ROWS) {
            due.index("row " + row, () -> lab.appendRow(row, 0));
            due.index("other " + row, () -> lab.appendRow(0, row));
            due.index("both " + row, () -> lab.appendRow(row, row));
        }
        lab.appendSeries(2, 0, 0, 256);
        due.index("a full row and no other", () -> lab.appendRow(2, 4));
        due.state("a full row to itself", () -> lab.appendRow(2, 2));
    }

    private static void setByte(Due due) {
        ChecksumLab lab = new ChecksumLab();
        lab.appendSeries(1, 10, 1, 3);
        lab.appendSeries(2, 10, 1, 3);
        due.answer("setByte", lab.setByte(1, 1, 255), 11);
        due.answer("setByte again", lab.setByte(1, 1, 0), 255);
        due.answer("setByte of the first", lab.setByte(1, 0, 1), 10);
        due.answer("setByte of the last", lab.setByte(1, 2, 2), 12);
        expectRow(due, lab, 1, 1, 0, 2);
        expectRow(due, lab, 2, 10, 11, 12);
        lab.appendSeries(0, 0, 1, 256);
        due.answer("setByte at 255", lab.setByte(0, 255, 7), 255);
        due.answer("the byte at 255", lab.byteAt(0, 255), 7);
    }

    private static void setByteWrong(Due due) {
        ChecksumLab lab = new ChecksumLab();
        lab.appendSeries(0, 10, 1, 3);
        for (int bad : NO_BYTES) {
            due.argument("value " + bad, () -> lab.setByte(0, 1, bad));
            due.index("index 3 and value " + bad, () -> lab.setByte(0, 3, bad));
            due.index("no row and value " + bad, () -> lab.setByte(4, 0, bad));
        }
        for (int index : new int[] {-1, 3, 255, 256, MIN, MAX}) {
            due.index("index " + index, () -> lab.setByte(0, index, 0));
        }
        for (int row : NO_ROWS) {
            due.index("row " + row, () -> lab.setByte(row, 0, 0));
        }
        due.index("an empty row", () -> lab.setByte(1, 0, 0));
        expectRow(due, lab, 0, 10, 11, 12);
    }

    private static void truncate(Due due) {
        ChecksumLab lab = new ChecksumLab();
        lab.appendSeries(0, 1, 1, 5);
        due.answer("truncate to the same length", lab.truncate(0, 5), 0);
        due.answer("truncate", lab.truncate(0, 3), 2);
        expectRow(due, lab, 0, 1, 2, 3);
        due.answer("append after it", lab.append(0, 9), 4);
        expectRow(due, lab, 0, 1, 2, 3, 9);
        due.answer("truncate to 0", lab.truncate(0, 0), 4);
        due.answer("length", lab.length(0), 0);
        due.answer("truncate of an empty row", lab.truncate(0, 0), 0);
        lab.appendSeries(1, 1, 1, 256);
        due.answer("truncate of a full row", lab.truncate(1, 0), 256);
        due.answer("a full row again", lab.appendSeries(1, 1, 1, 256), 256);
        due.answer("truncate by one", lab.truncate(1, 255), 1);
    }

    private static void truncateWrong(Due due) {
        ChecksumLab lab = new ChecksumLab();
        lab.appendSeries(0, 1, 1, 5);
        for (int length : new int[] {-1, 6, 256, MIN, MAX}) {
            due.argument("length " + length, () -> lab.truncate(0, length));
        }
        due.argument("an empty row to 1", () -> lab.truncate(1, 1));
        for (int row : NO_ROWS) {
            due.index("row " + row, () -> lab.truncate(row, 0));
            due.index("row and length wrong", () -> lab.truncate(row, -1));
        }
        expectRow(due, lab, 0, 1, 2, 3, 4, 5);
    }

    private static void lengthAndByteAt(Due due) {
        ChecksumLab lab = new ChecksumLab();
        for (int row = 0; row < 4; row++) {
            lab.appendSeries(row, 100 * row % 256, 1, row + 1);
        }
        for (int row = 0; row < 4; row++) {
            due.answer("length", lab.length(row), row + 1);
            due.answer("byteAt of the last", lab.byteAt(row, row), 100 * row % 256 + row);
            int asked = row;
            for (int index : new int[] {-1, row + 1, 255, 256, MIN, MAX}) {
                due.index("byteAt " + row + ", " + index, () -> lab.byteAt(asked, index));
            }
        }
        for (int row : NO_ROWS) {
            due.index("length of row " + row, () -> lab.length(row));
            due.index("byteAt of row " + row, () -> lab.byteAt(row, 0));
        }
    }

    private static void bytesBehindTheEndAreGone(Due due) {
        ChecksumLab lab = new ChecksumLab();
        lab.appendSeries(0, 1, 1, 5);
        lab.truncate(0, 2);
        due.index("byteAt behind the end", () -> lab.byteAt(0, 2));
        due.index("setByte behind the end", () -> lab.setByte(0, 2, 1));
        lab.appendRow(1, 0);
        expectRow(due, lab, 1, 1, 2);
    }

    private static void expectRow(Due due, ChecksumLab lab, int row, int... want) {
        due.answer("length of row " + row, lab.length(row), want.length);
        for (int index = 0; index < want.length && index < lab.length(row); index++) {
            due.answer("byteAt " + row + ", " + index, lab.byteAt(row, index), want[index]);
        }
    }
}
