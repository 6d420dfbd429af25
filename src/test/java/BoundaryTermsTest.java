/** The sentences of the terms, and of promise 1, that name a boundary: one test for each. */
public final class BoundaryTermsTest {
    private static final int MAX = Integer.MAX_VALUE;
    private static final int MIN = Integer.MIN_VALUE;

    private interface OnModel {
        int ask(ChecksumLab lab, int model);
    }

    private interface OnRow {
        int ask(ChecksumLab lab, int row);
    }

    private static final OnModel[] MODEL_CALLS = {
        (lab, model) -> lab.check(model),
        (lab, model) -> lab.multiply(model, 0, 0),
        (lab, model) -> lab.power(model, 0),
        (lab, model) -> lab.period(model, 1),
        (lab, model) -> lab.sum(model, 0),
        (lab, model) -> lab.sumOfPart(model, 0, 0, 0),
        (lab, model) -> lab.remainder(model, 0),
        (lab, model) -> lab.joined(model, 0, 0, 0),
        (lab, model) -> lab.patched(model, 0, 0, 0),
        (lab, model) -> lab.wrongBit(model, 0, 0),
    };

    private static final OnRow[] ROW_CALLS = {
        (lab, row) -> lab.append(row, 1),
        (lab, row) -> lab.appendSeries(row, 1, 1, 1),
        (lab, row) -> lab.appendRow(row, 0),
        (lab, row) -> lab.appendRow(0, row),
        (lab, row) -> lab.setByte(row, 0, 0),
        (lab, row) -> lab.truncate(row, 0),
        (lab, row) -> lab.length(row),
        (lab, row) -> lab.byteAt(row, 0),
        (lab, row) -> lab.sum(0, row),
        (lab, row) -> lab.sumOfPart(0, row, 0, 0),
        (lab, row) -> lab.remainder(0, row),
        (lab, row) -> lab.fletcher(row),
        (lab, row) -> lab.adler(row),
    };

    public static void main(String[] args) {
        Due due = new Due();
        due.run(BoundaryTermsTest::calls);
        due.run(BoundaryTermsTest::none);
        due.run(BoundaryTermsTest::newObject);
        due.run(BoundaryTermsTest::fourRows);
        due.run(BoundaryTermsTest::noOtherRows);
        due.run(BoundaryTermsTest::rowsHold256);
        due.run(BoundaryTermsTest::rowsAreEmptyAtFirst);
        due.run(BoundaryTermsTest::bytes);
        due.run(BoundaryTermsTest::modelsFromZero);
        due.run(BoundaryTermsTest::noOtherModels);
        due.run(BoundaryTermsTest::widths);
        due.run(BoundaryTermsTest::numbersWithBits);
        due.run(BoundaryTermsTest::numbersWith32Bits);
        due.run(BoundaryTermsTest::registerAtFirst);
        due.run(BoundaryTermsTest::orderOfBits);
        due.run(BoundaryTermsTest::shift);
        due.run(BoundaryTermsTest::reversed);
        due.run(BoundaryTermsTest::refusedCallsChangeNothing);
        due.run(BoundaryTermsTest::firstInTheThrowsClause);
        due.finish();
    }

    private static void calls(Due due) {
        due.sentence("An object is used for at most 512 calls");
        ChecksumLab lab = new ChecksumLab();
        for (int call = 1; call <= 256; call++) {
            due.answer("call " + call, lab.append(3, call - 1), call);
        }
        for (int model = 0; model < 6; model++) {
            due.answer("define", lab.define(32, 0x04C11DB7, -1, true, true, -1), model);
        }
        for (int call = 263; call <= 510; call++) {
            due.answer("call " + call, lab.check(call % 6), 0xCBF43926);
        }
        due.answer("call 511", lab.sum(5, 3), 0x29058C73);
        due.state("call 512", () -> lab.append(3, 0));
    }

    private static void none(Due due) {
        due.sentence("NONE = -1: returned if there is no such thing");
        ChecksumLab lab = Labs.withModels(1);
        due.answer("NONE", ChecksumLab.NONE, -1);
        due.answer("no period", lab.period(0, 1), -1);
        due.answer("no wrong bit", lab.wrongBit(0, 0, 1), -1);
    }

    private static void newObject(Due due) {
        due.sentence("Promise 1: empty rows and without models");
        ChecksumLab used = Labs.withModelsAndRows();
        ChecksumLab lab = new ChecksumLab();
        due.answer("models beside a used object", lab.models(), 0);
        for (int row = 0; row < 4; row++) {
            due.answer("length of row " + row + " beside a used object", lab.length(row), 0);
        }
        due.index("a model of the other object", () -> lab.check(0));
        lab.define(1, 1, 0, false, false, 0);
        lab.append(0, 99);
        due.same("the used object beside a new one", Picture.of(used), Picture.of(Labs.withModelsAndRows()));
    }

    private static void fourRows(Due due) {
        due.sentence("There are 4 rows, 0 to 3");
        ChecksumLab lab = new ChecksumLab();
        for (int row = 0; row < 4; row++) {
            due.answer("append to row " + row, lab.append(row, 40 + row), 1);
        }
        for (int row = 0; row < 4; row++) {
            due.same("row " + row, Picture.ofRow(lab, row), Picture.ofBytes(40 + row));
        }
    }

    private static void noOtherRows(Due due) {
        due.sentence("There are 4 rows, 0 to 3: no other");
        Refusals refusals = new Refusals(due, Labs::withRows);
        for (int row : Labs.NO_ROWS) {
            for (int call = 0; call < ROW_CALLS.length; call++) {
                OnRow asked = ROW_CALLS[call];
                refusals.index("row call " + call + " with row " + row, lab -> asked.ask(lab, row));
            }
        }
        ChecksumLab lab = Labs.withModels(1);
        for (int row = 0; row < 4; row++) {
            lab.append(row, 5);
        }
        for (OnRow asked : ROW_CALLS) {
            for (int row = 3; row >= 0; row--) {
                int there = row;
                due.allowed("a row call with row " + row, () -> asked.ask(lab, there));
                lab.truncate(row, 0);
                lab.append(row, 5);
            }
        }
    }

    private static void rowsHold256(Due due) {
        due.sentence("each of at most 256 bytes");
        ChecksumLab lab = new ChecksumLab();
        for (int row = 0; row < 4; row++) {
            int full = row;
            due.answer("256 bytes into row " + row, lab.appendSeries(row, row, 1, 256), 256);
            due.state("a byte more", () -> lab.append(full, 0));
            due.state("a series more", () -> lab.appendSeries(full, 0, 0, 1));
            due.state("a row more", () -> lab.appendRow(full, 0));
        }
        for (int row = 0; row < 4; row++) {
            due.answer("length", lab.length(row), 256);
            due.answer("the first byte", lab.byteAt(row, 0), row);
            due.answer("the last byte", lab.byteAt(row, 255), (row + 255) % 256);
        }
    }

    private static void rowsAreEmptyAtFirst(Due due) {
        due.sentence("rows: empty at first");
        ChecksumLab lab = Labs.withModels(1);
        for (int row = 0; row < 4; row++) {
            int empty = row;
            due.answer("length", lab.length(row), 0);
            due.answer("fletcher", lab.fletcher(row), 0);
            due.answer("adler", lab.adler(row), 1);
            due.answer("remainder", lab.remainder(0, row), 0);
            due.index("its first byte", () -> lab.byteAt(empty, 0));
            due.argument("shortening it to 1", () -> lab.truncate(empty, 1));
        }
    }

    private static void bytes(Due due) {
        due.sentence("A byte is a number from 0 to 255");
        ChecksumLab lab = new ChecksumLab();
        for (int value : new int[] {0, 1, 127, 128, 254, 255}) {
            int length = lab.append(0, value);
            due.answer("the byte appended", lab.byteAt(0, length - 1), value);
            lab.setByte(0, length - 1, 255 - value);
            due.answer("the byte set", lab.byteAt(0, length - 1), 255 - value);
        }
        Refusals refusals = new Refusals(due, Labs::withRows);
        for (int bad : Labs.NO_BYTES) {
            refusals.argument("append of " + bad, lab2 -> lab2.append(0, bad));
            refusals.argument("a series from " + bad, lab2 -> lab2.appendSeries(0, bad, 0, 1));
            refusals.argument("setByte to " + bad, lab2 -> lab2.setByte(0, 0, bad));
            refusals.argument("a change of " + bad, lab2 -> lab2.patched(0, 0, 0, bad));
            refusals.argument("a byte out of " + bad, lab2 -> lab2.adlerRolled(1, 1, bad, 0));
            refusals.argument("a byte in of " + bad, lab2 -> lab2.adlerRolled(1, 1, 0, bad));
        }
    }

    private static void modelsFromZero(Due due) {
        due.sentence("Models are numbered from 0; there are at most 6");
        ChecksumLab lab = new ChecksumLab();
        for (int number = 0; number < 6; number++) {
            due.answer("define", lab.define(8, 0, 0, false, false, 10 + number), number);
        }
        due.state("one more", () -> lab.define(8, 0, 0, false, false, 16));
        for (int number = 0; number < 6; number++) {
            due.answer("check of model " + number, lab.check(number), new Reference(8, 0, 0, false, false,
                    10 + number).sum(Picture.series(49, 1, 9)));
        }
    }

    private static void noOtherModels(Due due) {
        due.sentence("Models are numbered from 0: no other");
        for (int count : new int[] {0, 1, 5, 6}) {
            Refusals refusals = new Refusals(due, () -> Labs.withModels(count));
            for (int call = 0; call < MODEL_CALLS.length; call++) {
                OnModel asked = MODEL_CALLS[call];
                for (int model : new int[] {-1, count, count + 1, 6, MIN, MAX}) {
                    refusals.index("model call " + call + " with model " + model + " of " + count,
                            lab -> asked.ask(lab, model));
                }
                for (int model = 0; model < count; model++) {
                    int there = model;
                    due.allowed("model call " + call + " with model " + model + " of " + count,
                            () -> asked.ask(Labs.withModels(count), there));
                }
            }
        }
    }

    private static void widths(Due due) {
        due.sentence("A model has a width w, 1 to 32, and a polynomial P of degree w");
        for (int width = 1; width <= 32; width++) {
            ChecksumLab lab = new ChecksumLab();
            due.answer("define of width " + width, lab.define(width, 1, 0, false, false, 0), 0);
            due.answer("the highest power below P", lab.power(0, width - 1), 1 << (width - 1));
            due.answer("the power of P's degree", lab.power(0, width), 1);
        }
        Refusals refusals = new Refusals(due, ChecksumLab::new);
        refusals.argument("width 0", lab -> lab.define(0, 0, 0, false, false, 0));
        refusals.argument("width 33", lab -> lab.define(33, 0, 0, false, false, 0));
    }

    private static void numbersWithBits(Due due) {
        due.sentence("All numbers with w bits are ints whose bits from w on are 0");
        for (int w = 1; w < 32; w++) {
            int width = w;
            int all = Labs.allBits(width);
            ChecksumLab lab = new ChecksumLab();
            due.answer("define of all bits", lab.define(width, all, all, false, false, all), 0);
            due.answer("multiply of all bits", lab.multiply(0, all, 1), all);
            due.answer("patched of all bits", lab.patched(0, all, 0, 0), all);
            due.answer("joined of all bits", lab.joined(0, all, all, 0),
                    new Reference(width, all, all, false, false, all).joined(all, all, 0));
            due.allowed("wrongBit of all bits", () -> lab.wrongBit(0, all, 1));
            Refusals refusals = new Refusals(due, () -> oneModel(width));
            for (int bad : Labs.notNumbers(width)) {
                refusals.argument("poly", lab2 -> lab2.define(width, bad, 0, false, false, 0));
                refusals.argument("init", lab2 -> lab2.define(width, 0, bad, false, false, 0));
                refusals.argument("xorOut", lab2 -> lab2.define(width, 0, 0, false, false, bad));
                refusals.argument("a", lab2 -> lab2.multiply(0, bad, 0));
                refusals.argument("b", lab2 -> lab2.multiply(0, 0, bad));
                refusals.argument("first", lab2 -> lab2.joined(0, bad, 0, 0));
                refusals.argument("second", lab2 -> lab2.joined(0, 0, bad, 0));
                refusals.argument("sum", lab2 -> lab2.patched(0, bad, 0, 0));
                refusals.argument("difference", lab2 -> lab2.wrongBit(0, bad, 0));
            }
        }
    }

    private static ChecksumLab oneModel(int width) {
        ChecksumLab lab = new ChecksumLab();
        lab.define(width, 1, 0, false, false, 0);
        return lab;
    }

    private static void numbersWith32Bits(Due due) {
        due.sentence("with w = 32 every int is one, and it may be negative");
        for (int value : new int[] {MIN, MIN + 1, -1, 0, 1, MAX}) {
            ChecksumLab lab = new ChecksumLab();
            due.answer("define", lab.define(32, value, value, false, false, value), 0);
            due.answer("multiply", lab.multiply(0, value, 1), value);
            due.answer("multiply, the other way", lab.multiply(0, 1, value), value);
            due.answer("patched", lab.patched(0, value, 0, 0), value);
            due.answer("joined with the sum of an empty row", lab.joined(0, value, lab.sum(0, 0), 0), value);
            due.answer("joined behind the sum of an empty row", lab.joined(0, lab.sum(0, 0), value, 7), value);
            due.answer("wrongBit", lab.wrongBit(0, value, 1),
                    new Reference(32, value, value, false, false, value).wrongBit(value, 1));
        }
    }

    private static void registerAtFirst(Due due) {
        due.sentence("a register, which is init at first: it takes the bits of an empty row, none");
        for (int width = 1; width <= 32; width++) {
            int all = Labs.allBits(width);
            for (int init : new int[] {0, 1, all, 1 << (width - 1)}) {
                ChecksumLab lab = new ChecksumLab();
                lab.define(width, all, init, true, false, 0);
                due.answer("width " + width + ", init " + init, lab.sum(0, 0), init);
                due.answer("an empty part", lab.sumOfPart(0, 0, 0, 0), init);
            }
        }
    }

    private static void orderOfBits(Due due) {
        due.sentence("the most significant bit comes first, but if reflectIn the least significant bit");
        ChecksumLab lab = new ChecksumLab();
        lab.define(32, 0x04C11DB7, 0, false, false, 0);
        lab.define(32, 0x04C11DB7, 0, true, false, 0);
        lab.append(0, 128);
        lab.append(1, 1);
        for (int row = 0; row < 2; row++) {
            due.answer("first bit of row " + row, lab.sum(row, row), lab.power(0, 39));
            due.answer("last bit of row " + row, lab.sum(1 - row, row), 0x04C11DB7);
        }
    }

    private static void shift(Due due) {
        due.sentence("shifted left by one place, where the highest bit is dropped and the lowest becomes 0");
        for (int width = 1; width <= 32; width++) {
            ChecksumLab lab = new ChecksumLab();
            int all = Labs.allBits(width);
            lab.define(width, 0, all, false, false, 0);
            lab.append(0, 255);
            due.answer("all bits after 8 places, width " + width, lab.sum(0, 0), width <= 8 ? 0 : all << 8 & all);
            lab.appendSeries(0, 85, 1, 3);
            due.answer("all bits after 32 places, width " + width, lab.sum(0, 0), 0);
        }
    }

    private static void reversed(Due due) {
        due.sentence("if reflectOut is true, the order of the w bits of the register is reversed");
        for (int width = 1; width <= 32; width++) {
            ChecksumLab lab = new ChecksumLab();
            int highest = 1 << (width - 1);
            lab.define(width, 0, 1, false, true, 0);
            lab.define(width, 0, highest, false, true, 0);
            lab.define(width, 0, 1, false, true, 1);
            due.answer("the lowest bit, width " + width, lab.sum(0, 0), highest);
            due.answer("the highest bit, width " + width, lab.sum(1, 0), 1);
            due.answer("then xorOut is added, width " + width, lab.sum(2, 0), highest ^ 1);
        }
    }

    private static void refusedCallsChangeNothing(Due due) {
        due.sentence("A method that throws an exception changes nothing");
        Refusals full = new Refusals(due, Labs::withModelsAndRows);
        full.state("define", lab -> lab.define(8, 7, 0, false, false, 0));
        full.state("append", lab -> lab.append(2, 1));
        full.state("appendSeries", lab -> lab.appendSeries(0, 1, 1, 254));
        full.state("appendSeries to a full row", lab -> lab.appendSeries(2, 1, 1, 1));
        full.state("appendRow", lab -> lab.appendRow(0, 2));
        full.state("appendRow to itself", lab -> lab.appendRow(3, 3));
        Refusals refusals = new Refusals(due, Labs::withRows);
        refusals.argument("define of width", lab -> lab.define(33, 0, 0, false, false, 0));
        refusals.argument("define of poly", lab -> lab.define(4, 16, 0, false, false, 0));
        refusals.argument("define of init", lab -> lab.define(4, 0, 16, false, false, 0));
        refusals.argument("define of xorOut", lab -> lab.define(4, 0, 0, false, false, 16));
        refusals.index("append", lab -> lab.append(4, 1));
        refusals.argument("append", lab -> lab.append(0, 256));
        refusals.index("appendSeries", lab -> lab.appendSeries(-1, 1, 1, 1));
        refusals.argument("appendSeries of first", lab -> lab.appendSeries(0, 256, 1, 2));
        refusals.argument("appendSeries of step", lab -> lab.appendSeries(0, 1, 256, 2));
        refusals.argument("appendSeries of count", lab -> lab.appendSeries(0, 1, 1, 257));
        refusals.index("appendRow", lab -> lab.appendRow(0, 4));
        refusals.index("setByte", lab -> lab.setByte(0, 3, 1));
        refusals.argument("setByte", lab -> lab.setByte(0, 0, 256));
        refusals.index("truncate", lab -> lab.truncate(4, 0));
        refusals.argument("truncate to more", lab -> lab.truncate(0, 4));
        refusals.argument("truncate to less than none", lab -> lab.truncate(0, -1));
        nextCallAfterARefusedOne(due);
    }

    private static void nextCallAfterARefusedOne(Due due) {
        ChecksumLab lab = new ChecksumLab();
        due.argument("define", () -> lab.define(9, 0, 0, false, false, 512));
        due.answer("the next define", lab.define(9, 1, 0, false, false, 0), 0);
        due.argument("append", () -> lab.append(0, 256));
        due.answer("the next append", lab.append(0, 1), 1);
        due.argument("appendSeries", () -> lab.appendSeries(0, 2, 1, 0));
        due.answer("the next appendSeries", lab.appendSeries(0, 2, 1, 2), 3);
        due.argument("setByte", () -> lab.setByte(0, 1, -1));
        due.answer("the next setByte", lab.setByte(0, 1, 9), 2);
        due.argument("truncate", () -> lab.truncate(0, 4));
        due.answer("the next truncate", lab.truncate(0, 2), 1);
        due.index("appendRow", () -> lab.appendRow(0, 5));
        due.answer("the next appendRow", lab.appendRow(0, 0), 4);
        due.same("the row", Picture.ofRow(lab, 0), Picture.ofBytes(1, 9, 1, 9));
    }

    private static void firstInTheThrowsClause(Due due) {
        due.sentence("If several exceptions apply, the one that stands first in the throws clause is thrown");
        Refusals full = new Refusals(due, Labs::withModelsAndRows);
        full.argument("define, full", lab -> lab.define(0, 0, 0, false, false, 0));
        full.argument("define of poly, full", lab -> lab.define(8, 256, 0, false, false, 0));
        full.argument("define of init, full", lab -> lab.define(8, 0, 256, false, false, 0));
        full.argument("define of xorOut, full", lab -> lab.define(8, 0, 0, false, false, 256));
        full.index("multiply of a", lab -> lab.multiply(6, -1, 0));
        full.index("multiply of b", lab -> lab.multiply(6, 0, -1));
        full.index("power", lab -> lab.power(6, -1));
        full.index("period", lab -> lab.period(6, 0));
        full.index("append, row and value", lab -> lab.append(4, 256));
        full.argument("append, value and full", lab -> lab.append(2, 256));
        full.index("appendSeries, row and first", lab -> lab.appendSeries(4, 256, 0, 1));
        full.index("appendSeries, row and step", lab -> lab.appendSeries(4, 0, 256, 1));
        full.index("appendSeries, row and count", lab -> lab.appendSeries(4, 0, 0, 0));
        full.argument("appendSeries, first and full", lab -> lab.appendSeries(2, 256, 0, 1));
        full.argument("appendSeries, step and full", lab -> lab.appendSeries(2, 0, 256, 1));
        full.argument("appendSeries, count and full", lab -> lab.appendSeries(2, 0, 0, 257));
        full.index("appendRow, other and full", lab -> lab.appendRow(2, 4));
        full.index("appendRow, row and an other that is full", lab -> lab.appendRow(4, 2));
        full.index("setByte, row and value", lab -> lab.setByte(4, 0, 256));
        full.index("setByte, index and value", lab -> lab.setByte(0, 3, 256));
        full.index("truncate, row and length", lab -> lab.truncate(4, -1));
        full.index("joined of first", lab -> lab.joined(-1, -1, 0, 0));
        full.index("joined of second", lab -> lab.joined(-1, 0, -1, 0));
        full.index("joined of length", lab -> lab.joined(-1, 0, 0, -1));
        full.index("patched of sum", lab -> lab.patched(6, -1, 0, 0));
        full.index("patched of behind", lab -> lab.patched(6, 0, -1, 0));
        full.index("patched of change", lab -> lab.patched(6, 0, 0, -1));
        full.index("wrongBit of difference", lab -> lab.wrongBit(6, -1, 0));
        full.index("wrongBit of length", lab -> lab.wrongBit(6, 0, 4001));
    }
}
