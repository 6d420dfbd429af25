import java.math.BigInteger;
import java.util.zip.Adler32;

/** Promises 21 to 25: fletcher, fletcherJoined, adler, adlerJoined, adlerRolled. */
public final class FletcherAdlerTest {
    private static final int MAX = Integer.MAX_VALUE;
    private static final int MIN = Integer.MIN_VALUE;
    private static final int[] NO_ROWS = {-1, 4, MIN, MAX};
    private static final int[] NO_ADLER_SUMS = {-1, -15, 65521, 65535, 65521 << 16, -65536, (65521 << 16) + 5};

    public static void main(String[] args) {
        Due due = new Due();
        fletcherByHand(due);
        fletcherWrong(due);
        fletcherJoinedRows(due);
        fletcherJoinedNumbers(due);
        fletcherJoinedWrong(due);
        adlerAgainstTheLibrary(due);
        adlerWrong(due);
        adlerJoinedRows(due);
        adlerJoinedNumbers(due);
        adlerJoinedWrong(due);
        adlerRolledRows(due);
        adlerRolledNumbers(due);
        adlerRolledWrong(due);
        due.finish();
    }

    private static void fletcherByHand(Due due) {
        ChecksumLab lab = new ChecksumLab();
        due.answer("an empty row", lab.fletcher(0), 0);
        for (char letter : "abcde".toCharArray()) {
            lab.append(0, letter);
        }
        due.answer("abcde, a known sum", lab.fletcher(0), 0xC8F0);
        lab.append(0, 'f');
        due.answer("abcdef, a known sum", lab.fletcher(0), 0x2057);
        lab.append(0, 'g');
        lab.append(0, 'h');
        due.answer("abcdefgh, a known sum", lab.fletcher(0), 0x0627);
        lab.append(1, 255);
        due.answer("255 is 0", lab.fletcher(1), 0);
        lab.append(1, 254);
        due.answer("255, 254", lab.fletcher(1), 254 * 256 + 254);
        Numbers numbers = new Numbers(31);
        int[] bytes = SumsTest.fill(lab, 2, numbers, 256);
        int a = 0;
        int b = 0;
        for (int index = 0; index < 256; index++) {
            a += bytes[index];
            b += (256 - index) * bytes[index];
        }
        due.answer("256 bytes", lab.fletcher(2), 256 * (b % 255) + a % 255);
    }

    private static void fletcherWrong(Due due) {
        ChecksumLab lab = new ChecksumLab();
        for (int row : NO_ROWS) {
            due.index("fletcher of row " + row, () -> lab.fletcher(row));
        }
    }

    private static void fletcherJoinedRows(Due due) {
        Numbers numbers = new Numbers(32);
        for (int round = 0; round < 20; round++) {
            ChecksumLab lab = new ChecksumLab();
            SumsTest.fill(lab, 0, numbers, round % 3 == 0 ? 0 : numbers.below(120));
            SumsTest.fill(lab, 1, numbers, round % 4 == 0 ? 0 : numbers.below(120));
            int first = lab.fletcher(0);
            int second = lab.fletcher(1);
            lab.appendRow(0, 1);
            due.answer("fletcherJoined", lab.fletcherJoined(first, second, lab.length(1)), lab.fletcher(0));
        }
    }

    private static void fletcherJoinedNumbers(Due due) {
        ChecksumLab lab = new ChecksumLab();
        Numbers numbers = new Numbers(33);
        int greatest = 254 * 256 + 254;
        due.answer("the greatest sums", lab.fletcherJoined(greatest, greatest, 0), 253 * 256 + 253);
        for (int length : new int[] {0, 1, 254, 255, 1 << 24, 1 << 30, MAX - 1, MAX}) {
            for (int round = 0; round < 20; round++) {
                int a1 = round == 0 ? 254 : numbers.below(255);
                int b1 = round == 0 ? 254 : numbers.below(255);
                int a2 = numbers.below(255);
                int b2 = numbers.below(255);
                BigInteger b = big(length).multiply(big(a1)).add(big(b1)).add(big(b2)).mod(big(255));
                due.answer("fletcherJoined of " + a1 + ", " + b1 + ", " + a2 + ", " + b2 + ", " + length,
                        lab.fletcherJoined(256 * b1 + a1, 256 * b2 + a2, length),
                        256 * b.intValue() + (a1 + a2) % 255);
            }
        }
    }

    private static void fletcherJoinedWrong(Due due) {
        ChecksumLab lab = new ChecksumLab();
        for (int bad : new int[] {255, 511, 65280, 65281, 65535, 65536, -1, -256, -255, MIN, MAX}) {
            due.argument("first " + bad, () -> lab.fletcherJoined(bad, 0, 0));
            due.argument("second " + bad, () -> lab.fletcherJoined(0, bad, 0));
        }
        due.argument("length -1", () -> lab.fletcherJoined(0, 0, -1));
        due.argument("length MIN", () -> lab.fletcherJoined(0, 0, MIN));
    }

    private static void adlerAgainstTheLibrary(Due due) {
        Numbers numbers = new Numbers(34);
        for (int count : new int[] {0, 1, 2, 50, 255, 256}) {
            ChecksumLab lab = new ChecksumLab();
            Adler32 adler = new Adler32();
            for (int value : SumsTest.fill(lab, 1, numbers, count)) {
                adler.update(value);
            }
            due.answer("adler of " + count + " bytes", lab.adler(1), (int) adler.getValue());
        }
        ChecksumLab lab = new ChecksumLab();
        for (char letter : "Wikipedia".toCharArray()) {
            lab.append(0, letter);
        }
        due.answer("a known sum", lab.adler(0), 0x11E60398);
        lab.appendSeries(2, 255, 0, 256);
        Adler32 adler = new Adler32();
        for (int index = 0; index < 256; index++) {
            adler.update(255);
        }
        due.answer("256 bytes of 255", lab.adler(2), (int) adler.getValue());
        lab.appendSeries(3, 255, 0, 190);
        due.answer("a negative sum", lab.adler(3) < 0 ? 1 : 0, adlerOf(190, 255) < 0 ? 1 : 0);
        due.answer("its value", lab.adler(3), adlerOf(190, 255));
    }

    private static int adlerOf(int count, int value) {
        Adler32 adler = new Adler32();
        for (int index = 0; index < count; index++) {
            adler.update(value);
        }
        return (int) adler.getValue();
    }

    private static void adlerWrong(Due due) {
        ChecksumLab lab = new ChecksumLab();
        for (int row : NO_ROWS) {
            due.index("adler of row " + row, () -> lab.adler(row));
        }
    }

    private static void adlerJoinedRows(Due due) {
        Numbers numbers = new Numbers(35);
        for (int round = 0; round < 20; round++) {
            ChecksumLab lab = new ChecksumLab();
            SumsTest.fill(lab, 0, numbers, round % 3 == 0 ? 0 : numbers.below(128));
            SumsTest.fill(lab, 1, numbers, round % 4 == 0 ? 0 : numbers.below(128));
            int first = lab.adler(0);
            int second = lab.adler(1);
            lab.appendRow(0, 1);
            due.answer("adlerJoined", lab.adlerJoined(first, second, lab.length(1)), lab.adler(0));
        }
    }

    private static void adlerJoinedNumbers(Due due) {
        ChecksumLab lab = new ChecksumLab();
        Numbers numbers = new Numbers(36);
        due.answer("a below 0", lab.adlerJoined(0, 0, 0), 65520);
        due.answer("a and b below 0", lab.adlerJoined(0, 0, 3), adlerSum(65520, 65518));
        for (int length : new int[] {0, 1, 65520, 65521, 65522, 1 << 30, MAX - 1, MAX}) {
            for (int round = 0; round < 20; round++) {
                int a1 = round < 2 ? 65520 * round : numbers.below(65521);
                int b1 = round < 2 ? 65520 * round : numbers.below(65521);
                int a2 = round < 2 ? 65520 * round : numbers.below(65521);
                int b2 = round < 2 ? 65520 * round : numbers.below(65521);
                BigInteger b = big(length).multiply(big(a1 - 1)).add(big(b1)).add(big(b2));
                due.answer("adlerJoined of " + a1 + ", " + b1 + ", " + a2 + ", " + b2 + ", " + length,
                        lab.adlerJoined(adlerSum(a1, b1), adlerSum(a2, b2), length), adlerSum(big(a1 + a2 - 1), b));
            }
        }
    }

    private static void adlerJoinedWrong(Due due) {
        ChecksumLab lab = new ChecksumLab();
        for (int bad : NO_ADLER_SUMS) {
            due.argument("first " + bad, () -> lab.adlerJoined(bad, 1, 0));
            due.argument("second " + bad, () -> lab.adlerJoined(1, bad, 0));
        }
        due.argument("length -1", () -> lab.adlerJoined(1, 1, -1));
        due.argument("length MIN", () -> lab.adlerJoined(1, 1, MIN));
    }

    private static void adlerRolledRows(Due due) {
        ChecksumLab lab = new ChecksumLab();
        Numbers numbers = new Numbers(37);
        int[] bytes = SumsTest.fill(lab, 0, numbers, 100);
        for (int window : new int[] {1, 2, 17, 99}) {
            int rolled = adlerOfPart(bytes, 0, window);
            for (int from = 1; from + window <= 100; from++) {
                rolled = lab.adlerRolled(rolled, window, bytes[from - 1], bytes[from + window - 1]);
                due.answer("window " + window + " from " + from, rolled, adlerOfPart(bytes, from, window));
            }
        }
    }

    private static int adlerOfPart(int[] bytes, int from, int count) {
        Adler32 adler = new Adler32();
        for (int index = from; index < from + count; index++) {
            adler.update(bytes[index]);
        }
        return (int) adler.getValue();
    }

    private static void adlerRolledNumbers(Due due) {
        ChecksumLab lab = new ChecksumLab();
        Numbers numbers = new Numbers(38);
        for (int window : new int[] {1, 2, 256, 65521, 1 << 24, 1 << 30, MAX - 1, MAX}) {
            for (int round = 0; round < 20; round++) {
                int a = round < 2 ? 65520 * round : numbers.below(65521);
                int b = round < 2 ? 65520 * round : numbers.below(65521);
                int out = round == 0 ? 255 : numbers.below(256);
                int in = round == 1 ? 255 : round == 0 ? 0 : numbers.below(256);
                BigInteger low = big(a + in - out);
                BigInteger high = big(b).subtract(big(window).multiply(big(out))).add(low).subtract(BigInteger.ONE);
                due.answer("adlerRolled of " + a + ", " + b + ", " + window + ", " + out + ", " + in,
                        lab.adlerRolled(adlerSum(a, b), window, out, in), adlerSum(low, high));
            }
        }
    }

    private static void adlerRolledWrong(Due due) {
        ChecksumLab lab = new ChecksumLab();
        for (int bad : NO_ADLER_SUMS) {
            due.argument("sum " + bad, () -> lab.adlerRolled(bad, 1, 0, 0));
        }
        for (int bad : new int[] {0, -1, MIN}) {
            due.argument("window " + bad, () -> lab.adlerRolled(1, bad, 0, 0));
        }
        for (int bad : new int[] {-1, 256, MIN, MAX}) {
            due.argument("out " + bad, () -> lab.adlerRolled(1, 1, bad, 0));
            due.argument("in " + bad, () -> lab.adlerRolled(1, 1, 0, bad));
        }
        due.answer("the smallest right ones", lab.adlerRolled(1, 1, 0, 0), 1);
        due.answer("the greatest right bytes", lab.adlerRolled(adlerSum(256, 256), 1, 255, 255), adlerSum(256, 256));
    }

    private static BigInteger big(int value) {
        return BigInteger.valueOf(value);
    }

    private static int adlerSum(int a, int b) {
        return (int) (65536L * b + a);
    }

    private static int adlerSum(BigInteger a, BigInteger b) {
        return adlerSum(a.mod(big(65521)).intValue(), b.mod(big(65521)).intValue());
    }
}
