/** The sentences of promises 18 to 20 that name a boundary: one test for each. */
public final class BoundaryJoinedTest {
    private static final int MAX = Integer.MAX_VALUE;
    private static final int MIN = Integer.MIN_VALUE;
    private static final int CRC_32 = 0x04C11DB7;

    public static void main(String[] args) {
        Due due = new Due();
        due.run(BoundaryJoinedTest::joinedSums);
        due.run(BoundaryJoinedTest::joinedLength);
        due.run(BoundaryJoinedTest::joinedExact);
        due.run(BoundaryJoinedTest::joinedAllNumbers);
        due.run(BoundaryJoinedTest::joinedRows);
        due.run(BoundaryJoinedTest::joinedNoModel);
        due.run(BoundaryJoinedTest::patchedSum);
        due.run(BoundaryJoinedTest::patchedBehind);
        due.run(BoundaryJoinedTest::patchedChange);
        due.run(BoundaryJoinedTest::patchedOrder);
        due.run(BoundaryJoinedTest::patchedNarrow);
        due.run(BoundaryJoinedTest::patchedExact);
        due.run(BoundaryJoinedTest::patchedAllNumbers);
        due.run(BoundaryJoinedTest::patchedRows);
        due.run(BoundaryJoinedTest::patchedNoModel);
        due.run(BoundaryJoinedTest::wrongBitDifference);
        due.run(BoundaryJoinedTest::wrongBitLength);
        due.run(BoundaryJoinedTest::wrongBitNumbering);
        due.run(BoundaryJoinedTest::wrongBitAtTheEnds);
        due.run(BoundaryJoinedTest::wrongBitReversed);
        due.run(BoundaryJoinedTest::wrongBitOfNoDifference);
        due.run(BoundaryJoinedTest::wrongBitSmallest);
        due.run(BoundaryJoinedTest::wrongBitNone);
        due.run(BoundaryJoinedTest::wrongBitNoModel);
        due.finish();
    }

    private static ChecksumLab lab(Reference reference) {
        ChecksumLab lab = new ChecksumLab();
        reference.defineIn(lab);
        return lab;
    }

    private static int[] edges(int width) {
        return new int[] {0, 1, 1 << (width - 1), Labs.allBits(width)};
    }

    private static void joinedSums(Due due) {
        due.sentence("18: IllegalArgumentException if first or second is not a number with w bits");
        Numbers numbers = new Numbers(61);
        for (int width = 1; width <= 32; width++) {
            Reference reference = Reference.any(numbers, width);
            ChecksumLab lab = lab(reference);
            for (int first : edges(width)) {
                for (int second : edges(width)) {
                    due.answer(reference + ": joined " + first + ", " + second, lab.joined(0, first, second, 3),
                            reference.joined(first, second, 3));
                }
            }
            if (width < 32) {
                Refusals refusals = new Refusals(due, () -> lab(reference));
                for (int bad : Labs.notNumbers(width)) {
                    refusals.argument("first " + bad, again -> again.joined(0, bad, 0, 1));
                    refusals.argument("second " + bad, again -> again.joined(0, 0, bad, 1));
                    refusals.argument("both " + bad, again -> again.joined(0, bad, bad, 0));
                }
            }
        }
    }

    private static void joinedLength(Due due) {
        due.sentence("18: length: 0 or more; IllegalArgumentException if length is negative");
        Numbers numbers = new Numbers(62);
        for (int width = 1; width <= 32; width++) {
            Reference reference = Reference.any(numbers, width);
            ChecksumLab lab = lab(reference);
            int first = numbers.withBits(width);
            int second = numbers.withBits(width);
            for (int length : new int[] {0, 1, MAX}) {
                due.answer(reference + ": joined " + first + ", " + second + ", " + length,
                        lab.joined(0, first, second, length), reference.joined(first, second, length));
            }
            due.answer("a row without bytes behind", lab.joined(0, first, lab.sum(0, 0), 0), first);
            Refusals refusals = new Refusals(due, () -> lab(reference));
            for (int length : Labs.NO_LENGTHS) {
                refusals.argument("length " + length, again -> again.joined(0, 0, 0, length));
            }
        }
    }

    private static void joinedExact(Due due) {
        due.sentence("18: 8 * length is exact, also beyond the greatest int");
        int[] lengths = {(1 << 28) - 1, 1 << 28, (1 << 28) + 1, (1 << 29) - 1, 1 << 29, (1 << 29) + 1, 1 << 30, MAX - 1,
            MAX};
        for (int width : new int[] {3, 17, 31, 32}) {
            int poly = width == 3 ? 3 : width == 17 ? 9 : width == 31 ? 9 : CRC_32;
            ChecksumLab lab = lab(new Reference(width, poly, 0, false, false, 0));
            for (int length : lengths) {
                due.answer("width " + width + ", length " + length, lab.joined(0, 1, 0, length),
                        lab.power(0, 8L * length));
            }
        }
        ChecksumLab lab = lab(new Reference(32, CRC_32, 0, false, false, 0));
        due.answer("x^(2^32), whose int would be 0", lab.joined(0, 1, 0, 1 << 29), 2);
        due.answer("x^(2^32 - 8) * x^8", lab.multiply(0, lab.joined(0, 1, 0, (1 << 29) - 1), 256), 2);
        due.answer("x^(2^34 - 8) * x^8", lab.multiply(0, lab.joined(0, 1, 0, MAX), 256), 16);
    }

    private static void joinedAllNumbers(Due due) {
        due.sentence("18: for all numbers with w bits, whether they are sums of rows or not");
        for (int kind = 0; kind < 8; kind++) {
            for (int width = 1; width <= 3; width++) {
                int all = Labs.allBits(width);
                Reference reference = new Reference(width, all & 3, all & 5, kind % 2 == 0, kind % 4 > 1,
                        kind > 3 ? all & 6 : 0);
                ChecksumLab lab = lab(reference);
                for (int code = 0; code < 1 << 2 * width; code++) {
                    int first = code & all;
                    int second = code >> width;
                    for (int length : new int[] {0, 1, 5}) {
                        due.answer(reference + ": joined " + first + ", " + second + ", " + length,
                                lab.joined(0, first, second, length), reference.joined(first, second, length));
                    }
                }
            }
        }
    }

    private static void joinedRows(Due due) {
        due.sentence("18: returns the sum of the first row followed by the second one, of no bytes to 256");
        Numbers numbers = new Numbers(63);
        int[][] lengths = {{0, 0}, {0, 1}, {1, 0}, {0, 256}, {256, 0}, {1, 255}, {255, 1}, {128, 128}};
        for (int width = 1; width <= 32; width++) {
            for (int[] pair : lengths) {
                Reference reference = Reference.any(numbers, width);
                ChecksumLab lab = lab(reference);
                series(lab, 0, pair[0]);
                series(lab, 1, pair[1]);
                int first = lab.sum(0, 0);
                int second = lab.sum(0, 1);
                lab.appendRow(0, 1);
                due.answer(reference + ": " + pair[0] + " bytes and " + pair[1],
                        lab.joined(0, first, second, pair[1]), lab.sum(0, 0));
            }
        }
    }

    private static void series(ChecksumLab lab, int row, int count) {
        if (count > 0) {
            lab.appendSeries(row, 200 + row, 77, count);
        }
    }

    private static void joinedNoModel(Due due) {
        due.sentence("18: IndexOutOfBoundsException if there is no such model");
        for (int count : new int[] {0, 2, 6}) {
            Refusals refusals = new Refusals(due, () -> Labs.withModels(count));
            for (int model : new int[] {-1, count, 6, MIN, MAX}) {
                refusals.index("joined", lab -> lab.joined(model, 0, 0, 0));
                refusals.index("joined of first -1", lab -> lab.joined(model, -1, 0, 0));
                refusals.index("joined of second -1", lab -> lab.joined(model, 0, -1, 0));
                refusals.index("joined of length -1", lab -> lab.joined(model, 0, 0, -1));
            }
        }
    }

    private static void patchedSum(Due due) {
        due.sentence("19: IllegalArgumentException if sum is not a number with w bits");
        Numbers numbers = new Numbers(64);
        for (int width = 1; width <= 32; width++) {
            Reference reference = Reference.any(numbers, width);
            ChecksumLab lab = lab(reference);
            for (int sum : edges(width)) {
                due.answer(reference + ": patched " + sum, lab.patched(0, sum, 2, 0xA7),
                        reference.patched(sum, 2, 0xA7));
            }
            if (width < 32) {
                Refusals refusals = new Refusals(due, () -> lab(reference));
                for (int bad : Labs.notNumbers(width)) {
                    refusals.argument("sum " + bad, again -> again.patched(0, bad, 0, 0));
                }
            }
        }
    }

    private static void patchedBehind(Due due) {
        due.sentence("19: behind: 0 or more; IllegalArgumentException if behind is negative");
        Numbers numbers = new Numbers(65);
        for (int width = 1; width <= 32; width++) {
            Reference reference = Reference.any(numbers, width);
            ChecksumLab lab = lab(reference);
            for (int behind : new int[] {0, 1, MAX}) {
                due.answer(reference + ": patched, behind " + behind, lab.patched(0, 1, behind, 200),
                        reference.patched(1, behind, 200));
            }
            Refusals refusals = new Refusals(due, () -> lab(reference));
            for (int behind : Labs.NO_LENGTHS) {
                refusals.argument("behind " + behind, again -> again.patched(0, 0, behind, 1));
                refusals.argument("behind " + behind + ", no change", again -> again.patched(0, 0, behind, 0));
            }
        }
    }

    private static void patchedChange(Due due) {
        due.sentence("19: change: 0 to 255; IllegalArgumentException if change is out of range");
        Numbers numbers = new Numbers(66);
        for (int width = 1; width <= 32; width++) {
            Reference reference = Reference.any(numbers, width);
            ChecksumLab lab = lab(reference);
            for (int sum : edges(width)) {
                due.answer("no change of " + sum, lab.patched(0, sum, 9, 0), sum);
                due.answer(reference + ": all bits changed", lab.patched(0, sum, 9, 255),
                        reference.patched(sum, 9, 255));
            }
            Refusals refusals = new Refusals(due, () -> lab(reference));
            for (int bad : Labs.NO_BYTES) {
                refusals.argument("change " + bad, again -> again.patched(0, 0, 0, bad));
            }
        }
    }

    private static void patchedOrder(Due due) {
        due.sentence("19: from degree 7 down to degree 0, in the order in which the register takes the bits");
        ChecksumLab lab = new ChecksumLab();
        lab.define(32, CRC_32, -1, false, false, -1);
        lab.define(32, CRC_32, -1, true, false, -1);
        for (int k = 0; k < 8; k++) {
            int effect = lab.power(0, 32 + k);
            due.answer("bit " + k, lab.patched(0, 5, 0, 1 << k), 5 ^ effect);
            due.answer("bit " + (7 - k) + " with reflectIn", lab.patched(1, 5, 0, 128 >> k), 5 ^ effect);
        }
    }

    private static void patchedNarrow(Due due) {
        due.sentence("19: c of degree less than 8, also if w is less");
        for (int width = 1; width <= 8; width++) {
            for (int poly : edges(width)) {
                Reference reference = new Reference(width, poly, 0, poly != 0, false, 0);
                ChecksumLab lab = lab(reference);
                for (int change = 0; change < 256; change++) {
                    due.answer(reference + ": change " + change, lab.patched(0, 0, 1, change),
                            reference.patched(0, 1, change));
                }
            }
        }
    }

    private static void patchedExact(Due due) {
        due.sentence("19: 8 * behind + w is exact, also beyond the greatest int");
        int[] behinds = {(1 << 28) - 5, (1 << 28) - 4, (1 << 28) - 3, (1 << 28) - 1, 1 << 28, (1 << 29) - 4, 1 << 29,
            1 << 30, MAX - 1, MAX};
        for (int width : new int[] {3, 8, 17, 24, 31, 32}) {
            int poly = width == 32 ? CRC_32 : 9 & Labs.allBits(width);
            ChecksumLab lab = lab(new Reference(width, poly, 0, false, false, 0));
            for (int behind : behinds) {
                due.answer("width " + width + ", behind " + behind, lab.patched(0, 0, behind, 1),
                        lab.power(0, 8L * behind + width));
            }
        }
        ChecksumLab lab = lab(new Reference(32, CRC_32, 0, false, false, 0));
        due.answer("x^(2^32), whose int would be 0", lab.patched(0, 0, (1 << 29) - 4, 1), 2);
        due.answer("x^(2^34 + 24)", lab.patched(0, 0, MAX, 1), lab.power(0, 28));
    }

    private static void patchedAllNumbers(Due due) {
        due.sentence("19: for all numbers with w bits, whether they are sums of rows or not");
        for (int kind = 0; kind < 4; kind++) {
            for (int width = 1; width <= 5; width++) {
                int all = Labs.allBits(width);
                Reference reference = new Reference(width, all & 5, all & 11, kind % 2 == 0, kind > 1, all & 22);
                ChecksumLab lab = lab(reference);
                for (int sum = 0; sum <= all; sum++) {
                    for (int change : new int[] {1, 3, 128, 213}) {
                        due.answer(reference + ": patched " + sum + ", " + change, lab.patched(0, sum, 2, change),
                                reference.patched(sum, 2, change));
                    }
                }
            }
        }
    }

    private static void patchedRows(Due due) {
        due.sentence("19: returns the sum after the change, of the first byte to the last one");
        Numbers numbers = new Numbers(67);
        for (int width = 1; width <= 32; width++) {
            for (int length : new int[] {1, 2, 256}) {
                for (int index : new int[] {0, length - 1}) {
                    Reference reference = Reference.any(numbers, width);
                    ChecksumLab lab = lab(reference);
                    series(lab, 0, length);
                    int before = lab.sum(0, 0);
                    int value = numbers.below(256);
                    int change = lab.setByte(0, index, value) ^ value;
                    due.answer(reference + ": byte " + index + " of " + length + ", change " + change,
                            lab.patched(0, before, length - 1 - index, change), lab.sum(0, 0));
                }
            }
        }
    }

    private static void patchedNoModel(Due due) {
        due.sentence("19: IndexOutOfBoundsException if there is no such model");
        for (int count : new int[] {0, 2, 6}) {
            Refusals refusals = new Refusals(due, () -> Labs.withModels(count));
            for (int model : new int[] {-1, count, 6, MIN, MAX}) {
                refusals.index("patched", lab -> lab.patched(model, 0, 0, 0));
                refusals.index("patched of sum -1", lab -> lab.patched(model, -1, 0, 0));
                refusals.index("patched of behind -1", lab -> lab.patched(model, 0, -1, 0));
                refusals.index("patched of change 256", lab -> lab.patched(model, 0, 0, 256));
            }
        }
    }

    private static void wrongBitDifference(Due due) {
        due.sentence("20: IllegalArgumentException if difference is not a number with w bits");
        Numbers numbers = new Numbers(68);
        for (int width = 1; width <= 32; width++) {
            Reference reference = Reference.any(numbers, width);
            ChecksumLab lab = lab(reference);
            for (int difference : edges(width)) {
                due.answer(reference + ": wrongBit " + difference, lab.wrongBit(0, difference, 4),
                        reference.wrongBit(difference, 4));
            }
            if (width < 32) {
                Refusals refusals = new Refusals(due, () -> lab(reference));
                for (int bad : Labs.notNumbers(width)) {
                    refusals.argument("difference " + bad, again -> again.wrongBit(0, bad, 4));
                    refusals.argument("difference " + bad + ", no bytes", again -> again.wrongBit(0, bad, 0));
                }
            }
        }
    }

    private static void wrongBitLength(Due due) {
        due.sentence("20: length: 0 to 4000; IllegalArgumentException if length is out of range");
        ChecksumLab lab = lab(new Reference(32, CRC_32, -1, true, false, -1));
        due.answer("the last bit of no bytes", lab.wrongBit(0, CRC_32, 0), ChecksumLab.NONE);
        due.answer("the last bit of 1 byte", lab.wrongBit(0, CRC_32, 1), 7);
        due.answer("the last bit of 3999 bytes", lab.wrongBit(0, CRC_32, 3999), 31991);
        due.answer("the last bit of 4000 bytes", lab.wrongBit(0, CRC_32, 4000), 31999);
        Refusals refusals = new Refusals(due, () -> Labs.withModels(2));
        for (int length : new int[] {-1, 4001, MIN, MAX}) {
            refusals.argument("length " + length, again -> again.wrongBit(0, 0, length));
            refusals.argument("length " + length, again -> again.wrongBit(1, 7, length));
        }
    }

    private static void wrongBitNumbering(Due due) {
        due.sentence("20: the bits are numbered from 0 in the order in which the register takes them");
        for (boolean reflectIn : new boolean[] {false, true}) {
            ChecksumLab lab = lab(new Reference(16, 0x1021, 0xFFFF, reflectIn, false, 0xABCD));
            lab.appendSeries(0, 17, 91, 5);
            int right = lab.sum(0, 0);
            for (int bit = 0; bit < 40; bit++) {
                int value = lab.byteAt(0, bit / 8);
                lab.setByte(0, bit / 8, value ^ (reflectIn ? 1 << bit % 8 : 128 >> bit % 8));
                due.answer("bit " + bit + (reflectIn ? " with reflectIn" : ""),
                        lab.wrongBit(0, right ^ lab.sum(0, 0), 5), bit);
                lab.setByte(0, bit / 8, value);
            }
        }
    }

    private static void wrongBitAtTheEnds(Due due) {
        due.sentence("20: a change of bit k alone changes the register by x^(8 * length - 1 - k + w)");
        for (int length : new int[] {1, 2, 255, 256, 3999, 4000}) {
            ChecksumLab lab = lab(new Reference(32, CRC_32, 0, false, false, 0));
            int bits = 8 * length;
            due.answer("the first bit", lab.wrongBit(0, lab.power(0, bits + 31), length), 0);
            due.answer("the second bit", lab.wrongBit(0, lab.power(0, bits + 30), length), 1);
            due.answer("the last bit but one", lab.wrongBit(0, lab.power(0, 33), length), bits - 2);
            due.answer("the last bit", lab.wrongBit(0, lab.power(0, 32), length), bits - 1);
            due.answer("a bit before the first", lab.wrongBit(0, lab.power(0, bits + 32), length), ChecksumLab.NONE);
            due.answer("a bit behind the last", lab.wrongBit(0, lab.power(0, 31), length), ChecksumLab.NONE);
        }
    }

    private static void wrongBitReversed(Due due) {
        due.sentence("20: the sum by the same, with its w bits reversed if reflectOut is true");
        for (int width = 1; width <= 32; width++) {
            int highest = 1 << (width - 1);
            ChecksumLab lab = new ChecksumLab();
            lab.define(width, 1, 0, false, true, 0);
            lab.define(width, 1, Labs.allBits(width), false, true, Labs.allBits(width));
            lab.define(width, 1, 0, false, false, 0);
            int smallest = 31 - 31 / width * width;
            due.answer("P = x^w + 1, width " + width, lab.wrongBit(0, highest, 4), smallest);
            due.answer("whatever init and xorOut are", lab.wrongBit(1, highest, 4), smallest);
            due.answer("not reversed", lab.wrongBit(2, 1, 4), smallest);
        }
        ChecksumLab lab = lab(new Reference(32, 1, 0, true, true, 0));
        due.answer("a negative difference", lab.wrongBit(0, MIN, 1), 7);
        due.answer("one that is not negative", lab.wrongBit(0, 1, 1), ChecksumLab.NONE);
    }

    private static void wrongBitOfNoDifference(Due due) {
        due.sentence("20: a difference of 0 is treated like any other");
        for (int width = 1; width <= 32; width++) {
            for (boolean reflectOut : new boolean[] {false, true}) {
                int all = Labs.allBits(width);
                ChecksumLab lab = new ChecksumLab();
                lab.define(width, 0, all, true, reflectOut, all);
                lab.define(width, 1, all, true, reflectOut, all);
                lab.define(width, all, 0, false, reflectOut, 0);
                for (int length : new int[] {1, 2, 4000}) {
                    due.answer("every bit leaves the sum as it is", lab.wrongBit(0, 0, length), 0);
                    due.answer("no bit leaves the sum as it is", lab.wrongBit(1, 0, length), ChecksumLab.NONE);
                    due.answer("no bit leaves the sum as it is", lab.wrongBit(2, 0, length), ChecksumLab.NONE);
                }
                due.answer("there is no bit", lab.wrongBit(0, 0, 0), ChecksumLab.NONE);
                due.answer("there is no bit", lab.wrongBit(1, 0, 0), ChecksumLab.NONE);
            }
        }
    }

    private static void wrongBitSmallest(Due due) {
        due.sentence("20: returns the smallest number of a bit whose change alone changes the sum by difference");
        ChecksumLab lab = new ChecksumLab();
        lab.define(3, 3, 0, false, false, 0);
        lab.define(1, 1, 0, false, false, 0);
        lab.define(16, 1, 0, true, true, 0);
        lab.define(2, 2, 0, false, false, 0);
        for (int bit = 0; bit < 7; bit++) {
            due.answer("one of every 7 bits", lab.wrongBit(0, lab.power(0, 34 - bit), 4), bit);
            due.answer("one of every 7 of 32000 bits", lab.wrongBit(0, lab.power(0, 32002 - bit), 4000), bit);
        }
        due.answer("every bit of 8", lab.wrongBit(1, 1, 1), 0);
        due.answer("every bit of 32000", lab.wrongBit(1, 1, 4000), 0);
        for (int bit = 0; bit < 16; bit++) {
            due.answer("one of every 16 bits", lab.wrongBit(2, 1 << bit, 4000), bit);
        }
        due.answer("every bit, P = x^2 + x", lab.wrongBit(3, 2, 4000), 0);
    }

    private static void wrongBitNone(Due due) {
        due.sentence("20: NONE if there is none");
        ChecksumLab lab = new ChecksumLab();
        lab.define(8, 0, 0, false, false, 0);
        lab.define(8, 1, 0, false, false, 0);
        lab.define(32, CRC_32, 0, true, true, 0);
        for (int length : new int[] {0, 1, 4000}) {
            due.answer("no bit changes by 1, P = x^8", lab.wrongBit(0, 1, length), ChecksumLab.NONE);
            due.answer("no bit changes by 3, P = x^8 + 1", lab.wrongBit(1, 3, length), ChecksumLab.NONE);
            due.answer("no bit changes by all of 32", lab.wrongBit(2, -1, length), ChecksumLab.NONE);
        }
        for (int width = 1; width <= 32; width++) {
            ChecksumLab narrow = lab(new Reference(width, 1, 0, false, false, 0));
            due.answer("no bit of no bytes, width " + width, narrow.wrongBit(0, 1, 0), ChecksumLab.NONE);
        }
    }

    private static void wrongBitNoModel(Due due) {
        due.sentence("20: IndexOutOfBoundsException if there is no such model");
        for (int count : new int[] {0, 2, 6}) {
            Refusals refusals = new Refusals(due, () -> Labs.withModels(count));
            for (int model : new int[] {-1, count, 6, MIN, MAX}) {
                refusals.index("wrongBit", lab -> lab.wrongBit(model, 0, 0));
                refusals.index("wrongBit of difference -1", lab -> lab.wrongBit(model, -1, 0));
                refusals.index("wrongBit of length -1", lab -> lab.wrongBit(model, 0, -1));
                refusals.index("wrongBit of length 4001", lab -> lab.wrongBit(model, 0, 4001));
            }
        }
    }
}
