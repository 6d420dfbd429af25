import java.math.BigInteger;

/**
 * A model in the document's own words, slow and exact: polynomials are
 * BigIntegers of any degree, the register is a text of '0' and '1'.
 * Nothing here is shared with the class under test.
 */
final class Reference {
    final int width;
    final int poly;
    final int init;
    final boolean reflectIn;
    final boolean reflectOut;
    final int xorOut;
    private final BigInteger divisor;

    Reference(int width, int poly, int init, boolean reflectIn, boolean reflectOut, int xorOut) {
        this.width = width;
        this.poly = poly;
        this.init = init;
        this.reflectIn = reflectIn;
        this.reflectOut = reflectOut;
        this.xorOut = xorOut;
        this.divisor = unsigned(poly).setBit(width);
    }

    static Reference any(Numbers numbers, int width) {
        return new Reference(width, numbers.withBits(width), numbers.withBits(width), numbers.coin(),
                numbers.coin(), numbers.withBits(width));
    }

    int defineIn(ChecksumLab lab) {
        return lab.define(width, poly, init, reflectIn, reflectOut, xorOut);
    }

    public String toString() {
        return "model(" + width + ", " + poly + ", " + init + ", " + reflectIn + ", " + reflectOut + ", "
                + xorOut + ")";
    }

    static BigInteger unsigned(int value) {
        return BigInteger.valueOf(value & 0xFFFFFFFFL);
    }

    BigInteger modulo(BigInteger polynomial) {
        BigInteger rest = polynomial;
        while (rest.bitLength() > width) {
            rest = rest.xor(divisor.shiftLeft(rest.bitLength() - 1 - width));
        }
        return rest;
    }

    BigInteger times(BigInteger a, BigInteger b) {
        BigInteger product = BigInteger.ZERO;
        for (int bit = 0; bit < b.bitLength(); bit++) {
            if (b.testBit(bit)) {
                product = product.xor(a.shiftLeft(bit));
            }
        }
        return modulo(product);
    }

    int multiply(int a, int b) {
        return times(unsigned(a), unsigned(b)).intValue();
    }

    /** By halving the exponent: x^e is (x^(e/2))^2, times x if e is odd. */
    BigInteger power(BigInteger exponent) {
        if (exponent.signum() == 0) {
            return modulo(BigInteger.ONE);
        }
        BigInteger half = power(exponent.shiftRight(1));
        BigInteger square = times(half, half);
        return exponent.testBit(0) ? modulo(square.shiftLeft(1)) : square;
    }

    String bitsInTakenOrder(int value) {
        String bits = text(value, 8);
        return reflectIn ? turned(bits) : bits;
    }

    int sum(int[] bytes) {
        String register = text(init, width);
        for (int value : bytes) {
            for (char bit : bitsInTakenOrder(value).toCharArray()) {
                boolean differed = register.charAt(0) != bit;
                register = register.substring(1) + "0";
                if (differed) {
                    register = text(number(register) ^ poly, width);
                }
            }
        }
        return sumOfRegister(register);
    }

    int sumOfRegister(String register) {
        return number(reflectOut ? turned(register) : register) ^ xorOut;
    }

    String registerOfSum(int sum) {
        String bits = text(sum ^ xorOut, width);
        return reflectOut ? turned(bits) : bits;
    }

    int remainder(int[] bytes) {
        BigInteger row = BigInteger.ZERO;
        for (int value : bytes) {
            row = row.shiftLeft(8).or(BigInteger.valueOf(value));
        }
        return modulo(row).intValue();
    }

    int joined(int first, int second, long length) {
        BigInteger r = new BigInteger(registerOfSum(first), 2);
        BigInteger s = new BigInteger(registerOfSum(second), 2);
        BigInteger shift = power(BigInteger.valueOf(length).shiftLeft(3));
        BigInteger register = s.xor(times(r.xor(unsigned(init)), shift));
        return sumOfRegister(text(register.intValue(), width));
    }

    int patched(int sum, long behind, int change) {
        BigInteger r = new BigInteger(registerOfSum(sum), 2);
        BigInteger c = new BigInteger(bitsInTakenOrder(change), 2);
        BigInteger shift = power(BigInteger.valueOf(behind).shiftLeft(3).add(BigInteger.valueOf(width)));
        return sumOfRegister(text(r.xor(times(c, shift)).intValue(), width));
    }

    int wrongBit(int difference, int length) {
        for (int bit = 0; bit < 8 * length; bit++) {
            BigInteger change = power(BigInteger.valueOf(8L * length - 1 - bit + width));
            String bits = text(change.intValue(), width);
            if (number(reflectOut ? turned(bits) : bits) == difference) {
                return bit;
            }
        }
        return -1;
    }

    static String text(int value, int width) {
        StringBuilder bits = new StringBuilder();
        for (int bit = width - 1; bit >= 0; bit--) {
            bits.append((value >>> bit) & 1);
        }
        return bits.toString();
    }

    static int number(String bits) {
        return Integer.parseUnsignedInt(bits, 2);
    }

    static String turned(String bits) {
        return new StringBuilder(bits).reverse().toString();
    }
}
