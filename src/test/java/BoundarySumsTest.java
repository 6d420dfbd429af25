import java.util.Arrays;

/** The sentences of promises 15 to 17 that name a boundary: one test for each. */
public final class BoundarySumsTest {
    private static final int MAX = Integer.MAX_VALUE;
    private static final int MIN = Integer.MIN_VALUE;

    public static void main(String[] args) {
        Due due = new Due();
        due.run(BoundarySumsTest::sumOfAnyLength);
        due.run(BoundarySumsTest::sumOfAnyRow);
        due.run(BoundarySumsTest::sumWithoutModelOrRow);
        due.run(BoundarySumsTest::partFrom);
        due.run(BoundarySumsTest::partTo);
        due.run(BoundarySumsTest::partEmpty);
        due.run(BoundarySumsTest::partWhole);
        due.run(BoundarySumsTest::partOfItsOwn);
        due.run(BoundarySumsTest::partWithoutModelOrRow);
        due.run(BoundarySumsTest::remainderOfEmptyRow);
        due.run(BoundarySumsTest::remainderBelowP);
        due.run(BoundarySumsTest::remainderOfFullRow);
        due.run(BoundarySumsTest::remainderBitOrder);
        due.run(BoundarySumsTest::remainderOtherParameters);
        due.run(BoundarySumsTest::remainderWithoutModelOrRow);
        due.finish();
    }

    private static void sumOfAnyLength(Due due) {
        due.sentence("15: the sum of a row, empty to full");
        Numbers numbers = new Numbers(51);
        for (int width = 1; width <= 32; width++) {
            for (int length : new int[] {0, 1, 2, 255, 256}) {
                Reference reference = Reference.any(numbers, width);
                ChecksumLab lab = new ChecksumLab();
                reference.defineIn(lab);
                if (length > 0) {
                    lab.appendSeries(1, width, 77, length);
                }
                int[] bytes = Picture.series(width, 77, length);
                due.answer(reference + ": sum of " + length + " bytes", lab.sum(0, 1), reference.sum(bytes));
            }
        }
    }

    private static void sumOfAnyRow(Due due) {
        due.sentence("15: model: a model; row: 0 to 3");
        ChecksumLab lab = new ChecksumLab();
        for (int model = 0; model < 6; model++) {
            lab.define(8, 0x1D + 2 * model, 0x11 * model, model % 2 == 0, model > 2, 0x0F * model);
        }
        for (int row = 0; row < 4; row++) {
            lab.appendSeries(row, 5 * row, 1 + row, 10 + row);
        }
        for (int model = 0; model < 6; model++) {
            Reference reference = new Reference(8, 0x1D + 2 * model, 0x11 * model, model % 2 == 0, model > 2,
                    0x0F * model);
            for (int row = 0; row < 4; row++) {
                due.answer("sum of model " + model + ", row " + row, lab.sum(model, row),
                        reference.sum(Picture.series(5 * row, 1 + row, 10 + row)));
            }
        }
    }

    private static void sumWithoutModelOrRow(Due due) {
        due.sentence("15: IndexOutOfBoundsException if there is no such model or row");
        Refusals refusals = new Refusals(due, Labs::withRows);
        for (int bad : Labs.NO_ROWS) {
            refusals.index("sum of row " + bad, lab -> lab.sum(0, bad));
            refusals.index("sum of model " + bad, lab -> lab.sum(bad, 0));
            refusals.index("sum of model and row " + bad, lab -> lab.sum(bad, bad));
        }
        refusals.index("the model that comes next", lab -> lab.sum(2, 0));
        Refusals full = new Refusals(due, Labs::withModelsAndRows);
        full.index("a seventh model", lab -> lab.sum(6, 0));
        full.index("a fifth row", lab -> lab.sum(5, 4));
    }

    private static void partFrom(Due due) {
        due.sentence("16: from: the first index, 0 to the length of the row");
        ChecksumLab lab = Labs.withRows();
        due.answer("from 0", lab.sumOfPart(1, 0, 0, 1), withRowsModel1().sum(new int[] {10}));
        due.answer("from the last", lab.sumOfPart(1, 0, 2, 3), withRowsModel1().sum(new int[] {30}));
        due.answer("from the length", lab.sumOfPart(1, 0, 3, 3), withRowsModel1().sum(new int[0]));
        due.answer("from the length of a full row", lab.sumOfPart(1, 2, 256, 256), lab.sum(1, 1));
        due.answer("from 0 of an empty row", lab.sumOfPart(1, 1, 0, 0), lab.sum(1, 1));
        Refusals refusals = new Refusals(due, Labs::withRows);
        for (int from : new int[] {-1, 4, 5, 256, MIN, MAX}) {
            refusals.index("from " + from + " to 3", again -> again.sumOfPart(0, 0, from, 3));
            refusals.index("from " + from + " to itself", again -> again.sumOfPart(0, 0, from, from));
            refusals.index("from " + from + " of an empty row", again -> again.sumOfPart(0, 1, from, 0));
        }
        for (int from : new int[] {-1, 257, MIN, MAX}) {
            refusals.index("from " + from + " of a full row", again -> again.sumOfPart(0, 2, from, 256));
            refusals.index("from " + from + " to itself of a full row", again -> again.sumOfPart(0, 2, from, from));
        }
        refusals.index("from 1 of an empty row", again -> again.sumOfPart(0, 1, 1, 1));
    }

    /** What Labs defines as model 1. */
    private static Reference withRowsModel1() {
        return new Reference(8, 0xB7, 255, false, false, 0x5A);
    }

    private static void partTo(Due due) {
        due.sentence("16: to: the index behind the last one, from to the length of the row");
        ChecksumLab lab = Labs.withRows();
        due.answer("to from", lab.sumOfPart(1, 0, 1, 1), withRowsModel1().sum(new int[0]));
        due.answer("to one behind from", lab.sumOfPart(1, 0, 1, 2), withRowsModel1().sum(new int[] {20}));
        due.answer("to the length", lab.sumOfPart(1, 0, 1, 3), withRowsModel1().sum(new int[] {20, 30}));
        due.answer("to the length of a full row", lab.sumOfPart(1, 2, 0, 256),
                withRowsModel1().sum(Picture.series(3, 7, 256)));
        Refusals refusals = new Refusals(due, Labs::withRows);
        for (int to : new int[] {-1, 0, 1, 4, 256, MIN, MAX}) {
            refusals.index("from 2 to " + to, again -> again.sumOfPart(0, 0, 2, to));
        }
        for (int to : new int[] {-1, 4, 256, MIN, MAX}) {
            refusals.index("from 0 to " + to, again -> again.sumOfPart(0, 0, 0, to));
        }
        for (int to : new int[] {-1, 1, MIN, MAX}) {
            refusals.index("from 0 of an empty row to " + to, again -> again.sumOfPart(0, 1, 0, to));
        }
        for (int to : new int[] {-1, 255, 257, MIN, MAX}) {
            refusals.index("from the length of a full row to " + to, again -> again.sumOfPart(0, 2, 256, to));
        }
        refusals.index("from 3 to 2", again -> again.sumOfPart(0, 0, 3, 2));
        lab.truncate(0, 2);
        due.index("to a length that was", () -> lab.sumOfPart(0, 0, 0, 3));
    }

    private static void partEmpty(Due due) {
        due.sentence("16: from = to: the sum of a row without bytes");
        Numbers numbers = new Numbers(52);
        for (int width = 1; width <= 32; width++) {
            Reference reference = Reference.any(numbers, width);
            ChecksumLab lab = new ChecksumLab();
            reference.defineIn(lab);
            lab.appendSeries(0, 1, 1, 5);
            for (int place = 0; place <= 5; place++) {
                due.answer(reference + ": at " + place, lab.sumOfPart(0, 0, place, place),
                        reference.sum(new int[0]));
            }
        }
    }

    private static void partWhole(Due due) {
        due.sentence("16: from 0 to the length: the sum of the row");
        ChecksumLab lab = Labs.withModelsAndRows();
        for (int model = 0; model < 6; model++) {
            for (int row = 0; row < 4; row++) {
                due.answer("model " + model + ", row " + row, lab.sumOfPart(model, row, 0, lab.length(row)),
                        lab.sum(model, row));
            }
        }
    }

    private static void partOfItsOwn(Due due) {
        due.sentence("16: as if the part were a row of its own");
        Reference reference = new Reference(16, 0x1021, 0xFFFF, true, true, 0x0F0F);
        int[] bytes = Picture.series(3, 7, 256);
        ChecksumLab lab = new ChecksumLab();
        reference.defineIn(lab);
        lab.appendSeries(2, 3, 7, 256);
        int[][] parts = {{0, 1}, {255, 256}, {1, 256}, {0, 255}, {127, 129}, {254, 255}};
        for (int[] part : parts) {
            due.answer("part " + part[0] + " to " + part[1], lab.sumOfPart(0, 2, part[0], part[1]),
                    reference.sum(Arrays.copyOfRange(bytes, part[0], part[1])));
        }
        due.answer("the row is as long as before", lab.length(2), 256);
    }

    private static void partWithoutModelOrRow(Due due) {
        due.sentence("16: IndexOutOfBoundsException if there is no such model or row");
        Refusals refusals = new Refusals(due, Labs::withRows);
        for (int bad : Labs.NO_ROWS) {
            refusals.index("part of row " + bad, lab -> lab.sumOfPart(0, bad, 0, 0));
            refusals.index("part of model " + bad, lab -> lab.sumOfPart(bad, 0, 0, 0));
            refusals.index("part -1 of row " + bad, lab -> lab.sumOfPart(0, bad, -1, 0));
            refusals.index("part to 4 of model " + bad, lab -> lab.sumOfPart(bad, 0, 0, 4));
        }
        refusals.index("the model that comes next", lab -> lab.sumOfPart(2, 0, 0, 0));
    }

    private static void remainderOfEmptyRow(Due due) {
        due.sentence("17: 0 for an empty row");
        for (int width = 1; width <= 32; width++) {
            int all = Labs.allBits(width);
            ChecksumLab lab = new ChecksumLab();
            lab.define(width, all, all, true, true, all);
            lab.define(width, 0, all, false, false, 0);
            due.answer("of a new row", lab.remainder(0, 3), 0);
            due.answer("of a new row, P = x^w", lab.remainder(1, 3), 0);
            lab.appendSeries(3, 255, 0, 256);
            lab.truncate(3, 0);
            due.answer("of a row shortened to none", lab.remainder(0, 3), 0);
        }
    }

    private static void remainderBelowP(Due due) {
        due.sentence("17: a row of lower degree than P is its own remainder");
        for (int width = 8; width <= 32; width++) {
            ChecksumLab lab = new ChecksumLab();
            lab.define(width, Labs.allBits(width), 0, true, true, 0);
            lab.append(0, 200);
            due.answer("one byte with width " + width, lab.remainder(0, 0), 200);
            lab.setByte(0, 0, 0);
            lab.append(0, 255);
            due.answer("leading bits of 0 do not matter", lab.remainder(0, 0), 255);
        }
        ChecksumLab lab = new ChecksumLab();
        lab.define(32, 0x04C11DB7, 0, false, false, 0);
        lab.define(31, 0x04C11DB7, 0, false, false, 0);
        lab.appendSeries(0, 0xFE, 0, 4);
        due.answer("32 bits with width 32", lab.remainder(0, 0), 0xFEFEFEFE);
        due.answer("32 bits with width 31", lab.remainder(1, 0), 0x7EFEFEFE ^ 0x04C11DB7);
        lab.truncate(0, 0);
        lab.append(0, 1);
        lab.appendSeries(0, 0, 0, 4);
        due.answer("the power of P's degree", lab.remainder(0, 0), 0x04C11DB7);
        lab.define(4, 3, 0, false, false, 0);
        lab.append(1, 0x10);
        due.answer("the power of P's degree inside a byte", lab.remainder(2, 1), 3);
        lab.setByte(1, 0, 0x0F);
        due.answer("one degree below P inside a byte", lab.remainder(2, 1), 15);
    }

    private static void remainderOfFullRow(Due due) {
        due.sentence("17: the remainder of a whole row, up to 256 bytes");
        Numbers numbers = new Numbers(53);
        for (int width = 1; width <= 32; width++) {
            Reference reference = Reference.any(numbers, width);
            for (int length : new int[] {1, 4, 5, 255, 256}) {
                ChecksumLab lab = new ChecksumLab();
                reference.defineIn(lab);
                lab.appendSeries(0, 7 * width, 99, length);
                due.answer(reference + ": remainder of " + length + " bytes", lab.remainder(0, 0),
                        reference.remainder(Picture.series(7 * width, 99, length)));
            }
        }
    }

    private static void remainderBitOrder(Due due) {
        due.sentence("17: from the first byte on, in every byte from the most significant bit on, down to degree 0");
        ChecksumLab lab = new ChecksumLab();
        lab.define(32, 0, 0, true, true, 0);
        for (int value = 1; value <= 4; value++) {
            lab.append(0, value);
        }
        due.answer("four bytes", lab.remainder(0, 0), 0x01020304);
        due.answer("their last bit as degree 0", lab.append(0, 1), 5);
        due.answer("five bytes with P = x^32", lab.remainder(0, 0), 0x02030401);
        lab.define(1, 0, 0, true, true, 1);
        due.answer("the last bit with P = x", lab.remainder(1, 0), 1);
        lab.setByte(0, 4, 0xFE);
        due.answer("another last bit with P = x", lab.remainder(1, 0), 0);
    }

    private static void remainderOtherParameters(Due due) {
        due.sentence("17: the other parameters of the model than its polynomial do not matter");
        for (int width = 1; width <= 32; width++) {
            int all = Labs.allBits(width);
            ChecksumLab lab = new ChecksumLab();
            int poly = 0x04C11DB7 & all;
            lab.define(width, poly, 0, false, false, 0);
            lab.define(width, poly, all, false, false, 0);
            lab.define(width, poly, 0, true, false, 0);
            lab.define(width, poly, 0, false, true, 0);
            lab.define(width, poly, 0, false, false, all);
            lab.define(width, poly, 1, true, true, all);
            lab.appendSeries(1, 201, 13, 7);
            int want = new Reference(width, poly, 0, false, false, 0).remainder(Picture.series(201, 13, 7));
            for (int model = 0; model < 6; model++) {
                due.answer("width " + width + ", model " + model, lab.remainder(model, 1), want);
            }
        }
    }

    private static void remainderWithoutModelOrRow(Due due) {
        due.sentence("17: IndexOutOfBoundsException if there is no such model or row");
        Refusals refusals = new Refusals(due, Labs::withRows);
        for (int bad : Labs.NO_ROWS) {
            refusals.index("remainder of row " + bad, lab -> lab.remainder(0, bad));
            refusals.index("remainder of model " + bad, lab -> lab.remainder(bad, 0));
            refusals.index("remainder of model and row " + bad, lab -> lab.remainder(bad, bad));
        }
        refusals.index("the model that comes next", lab -> lab.remainder(2, 0));
    }
}
