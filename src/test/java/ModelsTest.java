import java.math.BigInteger;

/** Promises 1 to 7: a new object, define, models, check, multiply, power, period. */
public final class ModelsTest {
    private static final int MAX = Integer.MAX_VALUE;
    private static final int MIN = Integer.MIN_VALUE;

    public static void main(String[] args) {
        Due due = new Due();
        newObject(due);
        defineNumbers(due);
        defineRanges(due);
        defineOrderOfExceptions(due);
        defineChangesNothingWhenItThrows(due);
        objectsAreApart(due);
        checkValues(due);
        checkDoesNotTouchRows(due);
        multiplyByHand(due);
        multiplyAgainstReference(due);
        multiplyWrong(due);
        powerByHand(due);
        powerAgainstReference(due);
        powerWrong(due);
        periodByHand(due);
        periodAgainstPower(due);
        periodWrong(due);
        due.finish();
    }

    private static void newObject(Due due) {
        ChecksumLab lab = new ChecksumLab();
        due.answer("models of a new object", lab.models(), 0);
        for (int row = 0; row < 4; row++) {
            due.answer("length of a new row", lab.length(row), 0);
            due.answer("fletcher of a new row", lab.fletcher(row), 0);
            due.answer("adler of a new row", lab.adler(row), 1);
        }
        due.index("check without models", () -> lab.check(0));
        due.index("byteAt of a new row", () -> lab.byteAt(0, 0));
    }

    private static void defineNumbers(Due due) {
        ChecksumLab lab = new ChecksumLab();
        for (int number = 0; number < 6; number++) {
            due.answer("models", lab.models(), number);
            int made = number;
            due.index("check of the next model", () -> lab.check(made));
            due.answer("define", lab.define(8, 7, number, false, false, 0), number);
        }
        due.answer("models", lab.models(), 6);
        due.state("a seventh define", () -> lab.define(8, 7, 0, false, false, 0));
        due.answer("models after a seventh define", lab.models(), 6);
        due.index("check(6)", () -> lab.check(6));
        due.index("check(-1)", () -> lab.check(-1));
        due.index("check(MAX)", () -> lab.check(MAX));
        due.index("check(MIN)", () -> lab.check(MIN));
    }

    private static void defineRanges(Due due) {
        for (int width : new int[] {0, -1, 33, 64, MIN, MAX}) {
            ChecksumLab lab = new ChecksumLab();
            due.argument("define of width " + width, () -> lab.define(width, 0, 0, false, false, 0));
            due.answer("models after it", lab.models(), 0);
        }
        for (int width = 1; width <= 32; width++) {
            defineNumberRanges(due, width);
        }
    }

    private static void defineNumberRanges(Due due, int width) {
        ChecksumLab lab = new ChecksumLab();
        int w = width;
        int all = width == 32 ? -1 : (1 << width) - 1;
        due.answer("define with all bits", lab.define(width, all, all, true, true, all), 0);
        due.answer("define with no bits", lab.define(width, 0, 0, true, true, 0), 1);
        int high = 1 << (width - 1);
        due.answer("define with the highest bit", lab.define(width, high, high, false, false, high), 2);
        if (width == 32) {
            due.answer("define of the least int", lab.define(32, MIN, MIN, false, false, MIN), 3);
            return;
        }
        for (int bad : new int[] {1 << width, -1, MIN, all | MIN}) {
            due.argument("poly " + bad + " with width " + width, () -> lab.define(w, bad, 0, false, false, 0));
            due.argument("init " + bad + " with width " + width, () -> lab.define(w, 0, bad, false, false, 0));
            due.argument("xorOut " + bad + " with width " + width, () -> lab.define(w, 0, 0, false, false, bad));
        }
        due.answer("models after wrong ones", lab.models(), 3);
    }

    private static void defineOrderOfExceptions(Due due) {
        ChecksumLab lab = new ChecksumLab();
        for (int number = 0; number < 6; number++) {
            lab.define(8, 7, 0, false, false, 0);
        }
        due.argument("full and width wrong", () -> lab.define(0, 0, 0, false, false, 0));
        due.argument("full and poly wrong", () -> lab.define(8, 256, 0, false, false, 0));
        due.argument("full and init wrong", () -> lab.define(8, 0, 256, false, false, 0));
        due.argument("full and xorOut wrong", () -> lab.define(8, 0, 0, false, false, 256));
    }

    private static void defineChangesNothingWhenItThrows(Due due) {
        ChecksumLab lab = new ChecksumLab();
        lab.define(8, 7, 0, false, false, 0);
        due.argument("define", () -> lab.define(8, 7, 0, false, false, 256));
        due.index("check of the model that is not there", () -> lab.check(1));
        due.answer("the next define", lab.define(16, 4129, 65535, false, false, 0), 1);
        due.answer("check(0)", lab.check(0), 0xF4);
        due.answer("check(1)", lab.check(1), 0x29B1);
        for (int number = 2; number < 6; number++) {
            lab.define(1, 1, 0, false, false, 0);
        }
        due.state("define", () -> lab.define(16, 4129, 0, false, false, 0));
        due.answer("check(0) after it", lab.check(0), 0xF4);
        due.answer("check(5) after it", lab.check(5), lab.check(2));
    }

    private static void objectsAreApart(Due due) {
        ChecksumLab one = new ChecksumLab();
        ChecksumLab two = new ChecksumLab();
        one.define(8, 7, 0, false, false, 0);
        one.append(0, 1);
        due.answer("models of the other object", two.models(), 0);
        due.answer("length in the other object", two.length(0), 0);
    }

    /** The check values are those of the well-known catalogue of cyclic checks. */
    private static void checkValues(Due due) {
        known(due, "CRC-3/GSM", 3, 0x3, 0, false, 7, 0x4);
        known(due, "CRC-3/ROHC", 3, 0x3, 0x7, true, 0, 0x6);
        known(due, "CRC-4/INTERLAKEN", 4, 0x3, 0xF, false, 0xF, 0xB);
        known(due, "CRC-4/G-704", 4, 0x3, 0, true, 0, 0x7);
        known(due, "CRC-5/USB", 5, 0x05, 0x1F, true, 0x1F, 0x19);
        known(due, "CRC-5/EPC-C1G2", 5, 0x09, 0x09, false, 0, 0x00);
        known(due, "CRC-6/DARC", 6, 0x19, 0, true, 0, 0x26);
        known(due, "CRC-7/MMC", 7, 0x09, 0, false, 0, 0x75);
        known(due, "CRC-7/ROHC", 7, 0x4F, 0x7F, true, 0, 0x53);
        known(due, "CRC-8/SMBUS", 8, 0x07, 0, false, 0, 0xF4);
        known(due, "CRC-8/MAXIM-DOW", 8, 0x31, 0, true, 0, 0xA1);
        known(due, "CRC-10/ATM", 10, 0x233, 0, false, 0, 0x199);
        known(due, "CRC-11/FLEXRAY", 11, 0x385, 0x01A, false, 0, 0x5A3);
        known(due, "CRC-15/CAN", 15, 0x4599, 0, false, 0, 0x059E);
        known(due, "CRC-16/ARC", 16, 0x8005, 0, true, 0, 0xBB3D);
        known(due, "CRC-16/IBM-3740", 16, 0x1021, 0xFFFF, false, 0, 0x29B1);
        known(due, "CRC-16/KERMIT", 16, 0x1021, 0, true, 0, 0x2189);
        known(due, "CRC-16/IBM-SDLC", 16, 0x1021, 0xFFFF, true, 0xFFFF, 0x906E);
        known(due, "CRC-24/OPENPGP", 24, 0x864CFB, 0xB704CE, false, 0, 0x21CF02);
        known(due, "CRC-31/PHILIPS", 31, 0x04C11DB7, MAX, false, MAX, 0x0CE9E46C);
        known(due, "CRC-32/ISO-HDLC", 32, 0x04C11DB7, -1, true, -1, 0xCBF43926);
        known(due, "CRC-32/BZIP2", 32, 0x04C11DB7, -1, false, -1, 0xFC891918);
        known(due, "CRC-32/ISCSI", 32, 0x1EDC6F41, -1, true, -1, 0xE3069283);
        known(due, "CRC-32/AUTOSAR", 32, 0xF4ACFB13, -1, true, -1, 0x1697D06A);
        ChecksumLab lab = new ChecksumLab();
        lab.define(12, 0x80F, 0, false, true, 0);
        due.answer("check of CRC-12/UMTS, reflected at its end alone", lab.check(0), 0xDAF);
        lab.define(1, 1, 0, false, false, 0);
        due.answer("check of a parity bit", lab.check(1), parityOfCheckBytes());
    }

    private static int parityOfCheckBytes() {
        int ones = 0;
        for (int value = 49; value <= 57; value++) {
            ones += Integer.bitCount(value);
        }
        return ones % 2;
    }

    private static void known(Due due, String name, int width, int poly, int init, boolean reflect, int xorOut,
            int check) {
        ChecksumLab lab = new ChecksumLab();
        int model = lab.define(width, poly, init, reflect, reflect, xorOut);
        due.answer("check of " + name, lab.check(model), check);
    }

    private static void checkDoesNotTouchRows(Due due) {
        ChecksumLab lab = new ChecksumLab();
        lab.define(8, 7, 0, false, false, 0);
        lab.append(0, 5);
        int sum = lab.sum(0, 0);
        lab.check(0);
        due.answer("check a second time", lab.check(0), 0xF4);
        due.answer("length after check", lab.length(0), 1);
        due.answer("sum after check", lab.sum(0, 0), sum);
    }

    private static void multiplyByHand(Due due) {
        ChecksumLab lab = new ChecksumLab();
        lab.define(8, 0x1B, 0x55, true, true, 0xAA);
        due.answer("0x57 * 0x83, a known product", lab.multiply(0, 0x57, 0x83), 0xC1);
        due.answer("0x57 * 0x13, a known product", lab.multiply(0, 0x57, 0x13), 0xFE);
        due.answer("0 * 255", lab.multiply(0, 0, 255), 0);
        due.answer("255 * 1", lab.multiply(0, 255, 1), 255);
        lab.define(1, 0, 0, false, false, 0);
        lab.define(1, 1, 0, false, false, 0);
        for (int a = 0; a < 2; a++) {
            for (int b = 0; b < 2; b++) {
                due.answer("width 1, poly 0: " + a + " * " + b, lab.multiply(1, a, b), a * b);
                due.answer("width 1, poly 1: " + a + " * " + b, lab.multiply(2, a, b), a * b);
            }
        }
        lab.define(32, 0x04C11DB7, 0, false, false, 0);
        due.answer("x^31 * x", lab.multiply(3, MIN, 2), 0x04C11DB7);
        due.answer("x * x^31", lab.multiply(3, 2, MIN), 0x04C11DB7);
        due.answer("-1 * 1", lab.multiply(3, -1, 1), -1);
    }

    private static void multiplyAgainstReference(Due due) {
        Numbers numbers = new Numbers(5);
        for (int width = 1; width <= 32; width++) {
            Reference reference = Reference.any(numbers, width);
            ChecksumLab lab = new ChecksumLab();
            reference.defineIn(lab);
            for (int round = 0; round < 40; round++) {
                int a = numbers.withBits(width);
                int b = numbers.withBits(width);
                due.answer(reference + ": multiply " + a + ", " + b, lab.multiply(0, a, b), reference.multiply(a, b));
            }
        }
    }

    private static void multiplyWrong(Due due) {
        ChecksumLab lab = new ChecksumLab();
        due.index("no model", () -> lab.multiply(0, 0, 0));
        lab.define(8, 7, 0, false, false, 0);
        lab.define(31, 7, 0, false, false, 0);
        due.index("model 2", () -> lab.multiply(2, 0, 0));
        due.index("model -1 and a wrong", () -> lab.multiply(-1, -1, 0));
        due.index("model 2 and b wrong", () -> lab.multiply(2, 0, 256));
        due.argument("a 256", () -> lab.multiply(0, 256, 0));
        due.argument("b 256", () -> lab.multiply(0, 0, 256));
        due.argument("a -1", () -> lab.multiply(0, -1, 0));
        due.argument("b MIN", () -> lab.multiply(0, 0, MIN));
        due.argument("a MIN with 31 bits", () -> lab.multiply(1, MIN, 0));
        due.argument("b -1 with 31 bits", () -> lab.multiply(1, 0, -1));
    }

    private static void powerByHand(Due due) {
        ChecksumLab lab = new ChecksumLab();
        lab.define(8, 7, 0x12, true, true, 0x34);
        due.answer("x^0", lab.power(0, 0), 1);
        due.answer("x^1", lab.power(0, 1), 2);
        due.answer("x^7", lab.power(0, 7), 128);
        due.answer("x^8", lab.power(0, 8), 7);
        due.answer("x^9", lab.power(0, 9), 14);
        lab.define(1, 0, 0, false, false, 0);
        due.answer("P = x: x^0", lab.power(1, 0), 1);
        due.answer("P = x: x^1", lab.power(1, 1), 0);
        due.answer("P = x: x^MAX", lab.power(1, Long.MAX_VALUE), 0);
        lab.define(1, 1, 0, false, false, 0);
        due.answer("P = x + 1: x^0", lab.power(2, 0), 1);
        due.answer("P = x + 1: x^1", lab.power(2, 1), 1);
        due.answer("P = x + 1: x^MAX", lab.power(2, Long.MAX_VALUE), 1);
        lab.define(32, 0x04C11DB7, 0, false, false, 0);
        due.answer("x^31 is the least int", lab.power(3, 31), MIN);
        due.answer("x^32", lab.power(3, 32), 0x04C11DB7);
        due.answer("x^(2^32 - 1) of a primitive polynomial", lab.power(3, 0xFFFFFFFFL), 1);
        due.answer("x^(2^32) of a primitive polynomial", lab.power(3, 0x100000000L), 2);
    }

    private static void powerAgainstReference(Due due) {
        Numbers numbers = new Numbers(6);
        for (int width = 1; width <= 32; width++) {
            Reference reference = Reference.any(numbers, width);
            ChecksumLab lab = new ChecksumLab();
            reference.defineIn(lab);
            for (int round = 0; round < 12; round++) {
                long exponent = (numbers.anyLong() & Long.MAX_VALUE) >>> (5 * round);
                powerOnce(due, lab, reference, exponent);
            }
            powerOnce(due, lab, reference, Long.MAX_VALUE);
            powerOnce(due, lab, reference, 1L << 62);
            powerOnce(due, lab, reference, 1L << 31);
        }
    }

    private static void powerOnce(Due due, ChecksumLab lab, Reference reference, long exponent) {
        due.answer(reference + ": power " + exponent, lab.power(0, exponent),
                reference.power(BigInteger.valueOf(exponent)).intValue());
    }

    private static void powerWrong(Due due) {
        ChecksumLab lab = new ChecksumLab();
        due.index("no model", () -> lab.power(0, 0));
        lab.define(8, 7, 0, false, false, 0);
        due.argument("exponent -1", () -> lab.power(0, -1));
        due.argument("exponent MIN", () -> lab.power(0, Long.MIN_VALUE));
        due.index("model 1 and exponent -1", () -> lab.power(1, -1));
        due.index("model -1", () -> lab.power(-1, 1));
    }

    private static void periodByHand(Due due) {
        ChecksumLab lab = new ChecksumLab();
        lab.define(16, 0x002D, 9, true, true, 8);
        due.answer("a primitive polynomial of degree 16", lab.period(0, 70000), 65535);
        due.answer("its period as the limit", lab.period(0, 65535), 65535);
        due.answer("a limit one too small", lab.period(0, 65534), ChecksumLab.NONE);
        lab.define(1, 1, 0, false, false, 0);
        due.answer("P = x + 1, limit 1", lab.period(1, 1), 1);
        due.answer("P = x + 1, limit 70000", lab.period(1, 70000), 1);
        lab.define(1, 0, 0, false, false, 0);
        due.answer("P = x", lab.period(2, 70000), ChecksumLab.NONE);
        lab.define(32, 0x04C11DB7, 0, false, false, 0);
        due.answer("a primitive polynomial of degree 32", lab.period(3, 70000), ChecksumLab.NONE);
        lab.define(32, 1, 0, false, false, 0);
        due.answer("P = x^32 + 1", lab.period(4, 70000), 32);
        due.answer("P = x^32 + 1, limit 31", lab.period(4, 31), ChecksumLab.NONE);
        lab.define(17, 0x9, 0, false, false, 0);
        due.answer("a primitive polynomial of degree 17", lab.period(5, 70000), ChecksumLab.NONE);
    }

    private static void periodAgainstPower(Due due) {
        Numbers numbers = new Numbers(7);
        for (int width = 1; width <= 9; width++) {
            for (int round = 0; round < 5; round++) {
                Reference reference = Reference.any(numbers, width);
                ChecksumLab lab = new ChecksumLab();
                reference.defineIn(lab);
                int want = firstExponentWithPowerOne(reference, 600);
                due.answer(reference + ": period", lab.period(0, 600), want);
            }
        }
    }

    private static int firstExponentWithPowerOne(Reference reference, int limit) {
        BigInteger value = BigInteger.ONE;
        for (int exponent = 1; exponent <= limit; exponent++) {
            value = reference.modulo(value.shiftLeft(1));
            if (value.equals(BigInteger.ONE)) {
                return exponent;
            }
        }
        return -1;
    }

    private static void periodWrong(Due due) {
        ChecksumLab lab = new ChecksumLab();
        due.index("no model", () -> lab.period(0, 1));
        lab.define(1, 1, 0, false, false, 0);
        for (int limit : new int[] {0, -1, 70001, MIN, MAX}) {
            due.argument("limit " + limit, () -> lab.period(0, limit));
            due.index("no model and limit " + limit, () -> lab.period(1, limit));
        }
    }
}
