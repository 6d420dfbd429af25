/** Promises 18 to 20: joined, patched, wrongBit. */
public final class JoinedTest {
    private static final int MAX = Integer.MAX_VALUE;
    private static final int MIN = Integer.MIN_VALUE;

    public static void main(String[] args) {
        Due due = new Due();
        joinedRows(due);
        joinedNumbers(due);
        joinedWrong(due);
        patchedRows(due);
        patchedNumbers(due);
        patchedWrong(due);
        wrongBitOfRows(due);
        wrongBitAgainstReference(due);
        wrongBitByHand(due);
        wrongBitWrong(due);
        due.finish();
    }

    private static void joinedRows(Due due) {
        Numbers numbers = new Numbers(21);
        for (int round = 0; round < 96; round++) {
            Reference reference = Reference.any(numbers, round % 32 + 1);
            ChecksumLab lab = new ChecksumLab();
            reference.defineIn(lab);
            SumsTest.fill(lab, 0, numbers, round % 5 == 0 ? 0 : numbers.below(60));
            SumsTest.fill(lab, 1, numbers, round % 7 == 0 ? 0 : numbers.below(60));
            int first = lab.sum(0, 0);
            int second = lab.sum(0, 1);
            lab.appendRow(0, 1);
            due.answer(reference + ": joined", lab.joined(0, first, second, lab.length(1)), lab.sum(0, 0));
        }
    }

    private static void joinedNumbers(Due due) {
        Numbers numbers = new Numbers(22);
        for (int width = 1; width <= 32; width++) {
            Reference reference = Reference.any(numbers, width);
            ChecksumLab lab = new ChecksumLab();
            reference.defineIn(lab);
            for (int length : new int[] {0, 1, 1000, 1 << 28, (1 << 28) + 1, 1 << 29, MAX - 1, MAX}) {
                int first = numbers.withBits(width);
                int second = numbers.withBits(width);
                due.answer(reference + ": joined " + first + ", " + second + ", " + length,
                        lab.joined(0, first, second, length), reference.joined(first, second, length));
            }
        }
    }

    private static void joinedWrong(Due due) {
        ChecksumLab lab = new ChecksumLab();
        due.index("joined without models", () -> lab.joined(0, 0, 0, 0));
        lab.define(8, 7, 0, false, false, 0);
        for (int bad : new int[] {-1, 256, MIN, MAX}) {
            due.argument("first " + bad, () -> lab.joined(0, bad, 0, 0));
            due.argument("second " + bad, () -> lab.joined(0, 0, bad, 0));
            due.index("no model and first " + bad, () -> lab.joined(1, bad, 0, 0));
            due.index("no model and second " + bad, () -> lab.joined(-1, 0, bad, 0));
        }
        due.argument("length -1", () -> lab.joined(0, 0, 0, -1));
        due.argument("length MIN", () -> lab.joined(0, 0, 0, MIN));
        due.index("no model and length -1", () -> lab.joined(6, 0, 0, -1));
    }

    private static void patchedRows(Due due) {
        Numbers numbers = new Numbers(23);
        for (int round = 0; round < 96; round++) {
            Reference reference = Reference.any(numbers, round % 32 + 1);
            ChecksumLab lab = new ChecksumLab();
            reference.defineIn(lab);
            int count = 1 + numbers.below(60);
            SumsTest.fill(lab, 0, numbers, count);
            int before = lab.sum(0, 0);
            int index = round % 5 == 0 ? count - 1 : numbers.below(count);
            int value = numbers.below(256);
            int change = lab.setByte(0, index, value) ^ value;
            due.answer(reference + ": patched", lab.patched(0, before, count - 1 - index, change), lab.sum(0, 0));
        }
    }

    private static void patchedNumbers(Due due) {
        Numbers numbers = new Numbers(24);
        for (int width = 1; width <= 32; width++) {
            Reference reference = Reference.any(numbers, width);
            ChecksumLab lab = new ChecksumLab();
            reference.defineIn(lab);
            for (int behind : new int[] {0, 1, 1000, 1 << 28, (1 << 28) - 1, (1 << 28) - 4, 1 << 29, MAX}) {
                int sum = numbers.withBits(width);
                int change = behind == 0 ? 255 : numbers.below(256);
                due.answer(reference + ": patched " + sum + ", " + behind + ", " + change,
                        lab.patched(0, sum, behind, change), reference.patched(sum, behind, change));
            }
            due.answer("no change", lab.patched(0, 1, 5, 0), 1);
        }
    }

    private static void patchedWrong(Due due) {
        ChecksumLab lab = new ChecksumLab();
        due.index("patched without models", () -> lab.patched(0, 0, 0, 0));
        lab.define(16, 4129, 0, false, false, 0);
        for (int bad : new int[] {-1, 65536, MIN, MAX}) {
            due.argument("sum " + bad, () -> lab.patched(0, bad, 0, 0));
            due.argument("change " + bad, () -> lab.patched(0, 0, 0, bad));
            due.index("no model and sum " + bad, () -> lab.patched(1, bad, 0, 0));
            due.index("no model and change " + bad, () -> lab.patched(1, 0, 0, bad));
        }
        due.argument("change 256", () -> lab.patched(0, 0, 0, 256));
        due.argument("behind -1", () -> lab.patched(0, 0, -1, 0));
        due.argument("behind MIN", () -> lab.patched(0, 0, MIN, 0));
        due.index("no model and behind -1", () -> lab.patched(6, 0, -1, 0));
    }

    /** Every bit of a row in turn is made wrong; with a long period it is found again. */
    private static void wrongBitOfRows(Due due) {
        for (int kind = 0; kind < 4; kind++) {
            ChecksumLab lab = new ChecksumLab();
            boolean reflectIn = kind % 2 == 1;
            lab.define(16, 0x1021, 0xFFFF, reflectIn, kind > 1, 0x1234);
            lab.appendSeries(0, 3, 77, 8);
            int right = lab.sum(0, 0);
            for (int bit = 0; bit < 64; bit++) {
                int place = bit % 8;
                int value = lab.byteAt(0, bit / 8);
                lab.setByte(0, bit / 8, value ^ (reflectIn ? 1 << place : 128 >> place));
                due.answer("kind " + kind + ", bit " + bit, lab.wrongBit(0, right ^ lab.sum(0, 0), 8), bit);
                lab.setByte(0, bit / 8, value);
            }
        }
    }

    private static void wrongBitAgainstReference(Due due) {
        Numbers numbers = new Numbers(25);
        for (int round = 0; round < 160; round++) {
            int width = round % 32 + 1;
            Reference reference = Reference.any(numbers, width);
            ChecksumLab lab = new ChecksumLab();
            reference.defineIn(lab);
            int length = numbers.below(7);
            int difference = numbers.withBits(width) & (width > 8 ? -1 : 15);
            due.answer(reference + ": wrongBit " + difference + ", " + length,
                    lab.wrongBit(0, difference, length), reference.wrongBit(difference, length));
            due.answer(reference + ": wrongBit 0, " + length,
                    lab.wrongBit(0, 0, length), reference.wrongBit(0, length));
            int poly = reference.reflectOut ? Reference.number(Reference.turned(Reference.text(reference.poly, width)))
                    : reference.poly;
            due.answer(reference + ": wrongBit of the last bit, " + length,
                    lab.wrongBit(0, poly, length), reference.wrongBit(poly, length));
        }
    }

    private static void wrongBitByHand(Due due) {
        ChecksumLab lab = new ChecksumLab();
        lab.define(32, 0x04C11DB7, 0, false, false, 0);
        due.answer("the last of 32000 bits", lab.wrongBit(0, 0x04C11DB7, 4000), 31999);
        due.answer("the first of 32000 bits", lab.wrongBit(0, lab.power(0, 32031), 4000), 0);
        due.answer("one bit before the first", lab.wrongBit(0, lab.power(0, 32032), 4000), ChecksumLab.NONE);
        due.answer("one bit behind the last", lab.wrongBit(0, lab.power(0, 31), 4000), ChecksumLab.NONE);
        due.answer("a difference of 0", lab.wrongBit(0, 0, 4000), ChecksumLab.NONE);
        due.answer("a row of no bytes", lab.wrongBit(0, 0x04C11DB7, 0), ChecksumLab.NONE);
        lab.define(8, 0, 0, false, false, 0);
        due.answer("P = x^8: no bit changes the sum", lab.wrongBit(1, 0, 4), 0);
        due.answer("P = x^8 and a row of no bytes", lab.wrongBit(1, 0, 0), ChecksumLab.NONE);
        due.answer("P = x^8 and a difference", lab.wrongBit(1, 1, 4), ChecksumLab.NONE);
        lab.define(1, 1, 0, true, true, 0);
        due.answer("a parity bit: every bit does it", lab.wrongBit(2, 1, 4000), 0);
        due.answer("a parity bit and no difference", lab.wrongBit(2, 0, 4000), ChecksumLab.NONE);
        lab.define(3, 3, 7, false, false, 7);
        due.answer("a period of 7: the smallest of several", lab.wrongBit(3, 3, 4), 31 - 28);
        lab.define(32, 1, 0, false, true, 0);
        due.answer("a negative difference", lab.wrongBit(4, MIN, 4), 31);
    }

    private static void wrongBitWrong(Due due) {
        ChecksumLab lab = new ChecksumLab();
        due.index("wrongBit without models", () -> lab.wrongBit(0, 0, 0));
        lab.define(8, 7, 0, false, false, 0);
        for (int bad : new int[] {-1, 256, MIN, MAX}) {
            due.argument("difference " + bad, () -> lab.wrongBit(0, bad, 1));
            due.index("no model and difference " + bad, () -> lab.wrongBit(1, bad, 1));
        }
        for (int bad : new int[] {-1, 4001, MIN, MAX}) {
            due.argument("length " + bad, () -> lab.wrongBit(0, 0, bad));
            due.index("no model and length " + bad, () -> lab.wrongBit(-1, 0, bad));
        }
    }
}
