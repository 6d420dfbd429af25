import java.util.zip.CRC32;
import java.util.zip.CRC32C;

/** Promises 15 to 17: sum, sumOfPart, remainder. */
public final class SumsTest {
    private static final int MAX = Integer.MAX_VALUE;
    private static final int MIN = Integer.MIN_VALUE;

    public static void main(String[] args) {
        Due due = new Due();
        sumAgainstTheLibrary(due);
        sumAgainstReference(due);
        sumOfEmptyRow(due);
        sumAfterChanges(due);
        partsOfARow(due);
        partsAgainstReference(due);
        remainderByHand(due);
        remainderIgnoresTheRest(due);
        remainderAgainstReference(due);
        wrong(due);
        due.finish();
    }

    static int[] fill(ChecksumLab lab, int row, Numbers numbers, int count) {
        int[] bytes = new int[count];
        for (int index = 0; index < count; index++) {
            bytes[index] = numbers.below(256);
            lab.append(row, bytes[index]);
        }
        return bytes;
    }

    private static void sumAgainstTheLibrary(Due due) {
        Numbers numbers = new Numbers(15);
        for (int count : new int[] {0, 1, 2, 9, 100, 255, 256}) {
            ChecksumLab lab = new ChecksumLab();
            lab.define(32, 0x04C11DB7, -1, true, true, -1);
            lab.define(32, 0x1EDC6F41, -1, true, true, -1);
            CRC32 crc = new CRC32();
            CRC32C crcC = new CRC32C();
            for (int value : fill(lab, 3, numbers, count)) {
                crc.update(value);
                crcC.update(value);
            }
            due.answer("CRC-32 of " + count + " bytes", lab.sum(0, 3), (int) crc.getValue());
            due.answer("CRC-32C of " + count + " bytes", lab.sum(1, 3), (int) crcC.getValue());
        }
    }

    private static void sumAgainstReference(Due due) {
        Numbers numbers = new Numbers(16);
        for (int round = 0; round < 128; round++) {
            Reference reference = Reference.any(numbers, round % 32 + 1);
            ChecksumLab lab = new ChecksumLab();
            reference.defineIn(lab);
            int count = round == 0 || round == 127 ? 256 : numbers.below(30);
            int[] bytes = fill(lab, 1, numbers, count);
            due.answer(reference + ": sum of " + count + " bytes", lab.sum(0, 1), reference.sum(bytes));
        }
    }

    private static void sumOfEmptyRow(Due due) {
        ChecksumLab lab = new ChecksumLab();
        lab.define(8, 7, 0x13, true, false, 0x80);
        lab.define(8, 7, 0x13, false, true, 0x80);
        lab.define(32, 7, 1, false, true, 0);
        lab.define(1, 1, 1, true, true, 1);
        due.answer("init and xorOut", lab.sum(0, 0), 0x93);
        due.answer("init turned round and xorOut", lab.sum(1, 0), 0x48);
        due.answer("a lowest bit turned round", lab.sum(2, 0), MIN);
        due.answer("width 1", lab.sum(3, 0), 0);
    }

    private static void sumAfterChanges(Due due) {
        ChecksumLab lab = new ChecksumLab();
        lab.define(8, 7, 0, false, false, 0);
        lab.appendSeries(0, 49, 1, 9);
        due.answer("the check row", lab.sum(0, 0), 0xF4);
        due.answer("the same again", lab.sum(0, 0), 0xF4);
        lab.append(0, 0xF4);
        due.answer("a row with its sum behind it", lab.sum(0, 0), 0);
        lab.truncate(0, 9);
        due.answer("truncated", lab.sum(0, 0), 0xF4);
        lab.setByte(0, 0, 0);
        due.answer("with another first byte", lab.sum(0, 0),
                new Reference(8, 7, 0, false, false, 0).sum(new int[] {0, 50, 51, 52, 53, 54, 55, 56, 57}));
        due.answer("another row", lab.sum(0, 1), 0);
    }

    private static void partsOfARow(Due due) {
        ChecksumLab lab = new ChecksumLab();
        lab.define(16, 0x1021, 0xFFFF, false, false, 0);
        lab.appendSeries(0, 47, 1, 13);
        due.answer("the check bytes inside", lab.sumOfPart(0, 0, 2, 11), 0x29B1);
        due.answer("the whole", lab.sumOfPart(0, 0, 0, 13), lab.sum(0, 0));
        for (int place = 0; place <= 13; place++) {
            due.answer("an empty part at " + place, lab.sumOfPart(0, 0, place, place), 0xFFFF);
        }
        due.answer("an empty row", lab.sumOfPart(0, 1, 0, 0), 0xFFFF);
        lab.appendSeries(2, 0, 3, 256);
        due.answer("a full row", lab.sumOfPart(0, 2, 0, 256), lab.sum(0, 2));
        due.answer("behind a full row", lab.sumOfPart(0, 2, 256, 256), 0xFFFF);
    }

    private static void partsAgainstReference(Due due) {
        Numbers numbers = new Numbers(17);
        for (int width = 1; width <= 32; width++) {
            Reference reference = Reference.any(numbers, width);
            ChecksumLab lab = new ChecksumLab();
            reference.defineIn(lab);
            int[] bytes = fill(lab, 0, numbers, 20);
            for (int round = 0; round < 8; round++) {
                int from = numbers.below(21);
                int to = from + numbers.below(21 - from);
                due.answer(reference + ": part " + from + " to " + to, lab.sumOfPart(0, 0, from, to),
                        reference.sum(java.util.Arrays.copyOfRange(bytes, from, to)));
            }
        }
    }

    private static void remainderByHand(Due due) {
        ChecksumLab lab = new ChecksumLab();
        lab.define(8, 7, 255, true, true, 255);
        due.answer("an empty row", lab.remainder(0, 0), 0);
        lab.append(0, 0x80);
        due.answer("one byte", lab.remainder(0, 0), 0x80);
        lab.append(0, 0);
        due.answer("x^15", lab.remainder(0, 0), lab.power(0, 15));
        lab.define(3, 3, 0, false, false, 0);
        lab.append(1, 0b1000);
        due.answer("x^3 of width 3", lab.remainder(1, 1), 3);
        lab.define(1, 1, 0, false, false, 0);
        lab.define(1, 0, 0, false, false, 0);
        lab.appendSeries(2, 1, 2, 4);
        due.answer("P = x + 1: the parity of 1, 3, 5, 7", lab.remainder(2, 2), 0);
        due.answer("P = x: the last coefficient", lab.remainder(3, 2), 1);
        lab.define(32, 0x04C11DB7, 0, false, false, 0);
        lab.appendSeries(3, 0x80, 0x80, 4);
        due.answer("four bytes are their own remainder with 32 bits", lab.remainder(4, 3), 0x80008000);
    }

    private static void remainderIgnoresTheRest(Due due) {
        ChecksumLab lab = new ChecksumLab();
        lab.define(16, 0x1021, 0, false, false, 0);
        lab.define(16, 0x1021, 0xFFFF, true, false, 1);
        lab.define(16, 0x1021, 0x1234, false, true, 0xFFFF);
        lab.define(16, 0x1021, 0, true, true, 0);
        lab.appendSeries(0, 3, 77, 200);
        int want = lab.remainder(0, 0);
        for (int model = 1; model < 4; model++) {
            due.answer("remainder of model " + model, lab.remainder(model, 0), want);
        }
    }

    private static void remainderAgainstReference(Due due) {
        Numbers numbers = new Numbers(18);
        for (int round = 0; round < 96; round++) {
            Reference reference = Reference.any(numbers, round % 32 + 1);
            ChecksumLab lab = new ChecksumLab();
            reference.defineIn(lab);
            int[] bytes = fill(lab, 0, numbers, round < 4 ? 256 : numbers.below(40));
            due.answer(reference + ": remainder", lab.remainder(0, 0), reference.remainder(bytes));
        }
    }

    private static void wrong(Due due) {
        ChecksumLab lab = new ChecksumLab();
        due.index("sum without models", () -> lab.sum(0, 0));
        due.index("sumOfPart without models", () -> lab.sumOfPart(0, 0, 0, 0));
        due.index("remainder without models", () -> lab.remainder(0, 0));
        lab.define(8, 7, 0, false, false, 0);
        lab.appendSeries(0, 0, 1, 5);
        for (int bad : new int[] {-1, 4, 6, MIN, MAX}) {
            due.index("sum of row " + bad, () -> lab.sum(0, bad));
            due.index("sum of model " + bad, () -> lab.sum(bad, 0));
            due.index("sumOfPart of row " + bad, () -> lab.sumOfPart(0, bad, 0, 0));
            due.index("sumOfPart of model " + bad, () -> lab.sumOfPart(bad, 0, 0, 0));
            due.index("remainder of row " + bad, () -> lab.remainder(0, bad));
            due.index("remainder of model " + bad, () -> lab.remainder(bad, 0));
        }
        for (int to : new int[] {-1, 2, 6, 256, MIN, MAX}) {
            due.index("part 3 to " + to, () -> lab.sumOfPart(0, 0, 3, to));
        }
        for (int from : new int[] {-1, 6, 256, MIN, MAX}) {
            due.index("part " + from + " to 5", () -> lab.sumOfPart(0, 0, from, 5));
            due.index("part " + from + " to itself", () -> lab.sumOfPart(0, 0, from, from));
        }
        due.index("a part of an empty row", () -> lab.sumOfPart(0, 1, 0, 1));
    }
}
