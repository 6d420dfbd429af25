import java.math.BigInteger;

/** The sentences of promises 21 to 25 that name a boundary: one test for each. */
public final class BoundaryFletcherAdlerTest {
    private static final int MAX = Integer.MAX_VALUE;
    private static final int MIN = Integer.MIN_VALUE;
    private static final int LAST = 65520;
    private static final int[] NO_FLETCHER_SUMS = {255, 511, 65279, 65280, 65281, 65535, 65536, 65792, 1 << 24, -1,
        -255, -256, -257, MIN, MAX};
    private static final int[] NO_ADLER_SUMS = {65521, 65522, 65535, 65521 << 16, 65521 << 16 | 1, 65535 << 16, -1,
        65521 << 16 | 65521, LAST << 16 | 65521, 65521 << 16 | LAST, 1 << 16 | 65535, MIN | 65521, MAX};

    public static void main(String[] args) {
        Due due = new Due();
        due.run(BoundaryFletcherAdlerTest::fletcherAtFirst);
        due.run(BoundaryFletcherAdlerTest::fletcherA);
        due.run(BoundaryFletcherAdlerTest::fletcherB);
        due.run(BoundaryFletcherAdlerTest::fletcherFull);
        due.run(BoundaryFletcherAdlerTest::fletcherNoRow);
        due.run(BoundaryFletcherAdlerTest::fletcherJoinedSums);
        due.run(BoundaryFletcherAdlerTest::fletcherJoinedLength);
        due.run(BoundaryFletcherAdlerTest::fletcherJoinedRemainders);
        due.run(BoundaryFletcherAdlerTest::fletcherJoinedExact);
        due.run(BoundaryFletcherAdlerTest::fletcherJoinedRows);
        due.run(BoundaryFletcherAdlerTest::adlerAtFirst);
        due.run(BoundaryFletcherAdlerTest::adlerB);
        due.run(BoundaryFletcherAdlerTest::adlerWrapsAround);
        due.run(BoundaryFletcherAdlerTest::adlerFull);
        due.run(BoundaryFletcherAdlerTest::adlerNoRow);
        due.run(BoundaryFletcherAdlerTest::adlerJoinedSums);
        due.run(BoundaryFletcherAdlerTest::adlerJoinedLength);
        due.run(BoundaryFletcherAdlerTest::adlerJoinedReduced);
        due.run(BoundaryFletcherAdlerTest::adlerJoinedExact);
        due.run(BoundaryFletcherAdlerTest::adlerJoinedRows);
        due.run(BoundaryFletcherAdlerTest::adlerRolledSum);
        due.run(BoundaryFletcherAdlerTest::adlerRolledWindow);
        due.run(BoundaryFletcherAdlerTest::adlerRolledBytes);
        due.run(BoundaryFletcherAdlerTest::adlerRolledReduced);
        due.run(BoundaryFletcherAdlerTest::adlerRolledExact);
        due.run(BoundaryFletcherAdlerTest::adlerRolledRows);
        due.finish();
    }

    private static ChecksumLab rowOf(int... bytes) {
        ChecksumLab lab = new ChecksumLab();
        for (int value : bytes) {
            lab.append(0, value);
        }
        return lab;
    }

    private static int fletcherSum(long a, long b) {
        return (int) (256 * b + a);
    }

    private static int adlerSum(long a, long b) {
        return (int) (65536 * b + a);
    }

    private static BigInteger big(long value) {
        return BigInteger.valueOf(value);
    }

    private static int reduced(BigInteger value, int base) {
        return value.mod(big(base)).intValue();
    }

    private static void fletcherAtFirst(Due due) {
        due.sentence("21: two numbers a and b are 0 at first");
        ChecksumLab lab = new ChecksumLab();
        for (int row = 0; row < 4; row++) {
            due.answer("fletcher of row " + row, lab.fletcher(row), 0);
        }
        lab.appendSeries(1, 77, 3, 9);
        lab.truncate(1, 0);
        due.answer("fletcher of a row shortened to none", lab.fletcher(1), 0);
    }

    private static void fletcherA(Due due) {
        due.sentence("21: a becomes (a + byte) % 255");
        due.answer("254", rowOf(254).fletcher(0), fletcherSum(254, 254));
        due.answer("255", rowOf(255).fletcher(0), 0);
        due.answer("254, 1", rowOf(254, 1).fletcher(0), fletcherSum(0, 254));
        due.answer("254, 2", rowOf(254, 2).fletcher(0), fletcherSum(1, 0));
        due.answer("254, 255", rowOf(254, 255).fletcher(0), fletcherSum(254, 253));
        due.answer("0, 254, 0", rowOf(0, 254, 0).fletcher(0), fletcherSum(254, 253));
    }

    private static void fletcherB(Due due) {
        due.sentence("21: and then b becomes (b + a) % 255");
        due.answer("127, 0: b is 254", rowOf(127, 0).fletcher(0), fletcherSum(127, 254));
        due.answer("127, 1: b would be 255", rowOf(127, 1).fletcher(0), fletcherSum(128, 0));
        due.answer("127, 2: b would be 256", rowOf(127, 2).fletcher(0), fletcherSum(129, 1));
        due.answer("85, 0, 0: b would be 255", rowOf(85, 0, 0).fletcher(0), fletcherSum(85, 0));
    }

    private static void fletcherFull(Due due) {
        due.sentence("21: the Fletcher sum of a full row");
        for (int[] series : new int[][] {{255, 0}, {254, 0}, {1, 0}, {0, 1}, {255, 255}, {200, 77}}) {
            ChecksumLab lab = new ChecksumLab();
            lab.appendSeries(3, series[0], series[1], 256);
            long a = 0;
            long b = 0;
            for (int value : Picture.series(series[0], series[1], 256)) {
                a += value;
                b += a;
            }
            due.answer("from " + series[0] + " by " + series[1], lab.fletcher(3), fletcherSum(a % 255, b % 255));
        }
    }

    private static void fletcherNoRow(Due due) {
        due.sentence("21: IndexOutOfBoundsException if there is no such row");
        Refusals refusals = new Refusals(due, Labs::withRows);
        for (int row : Labs.NO_ROWS) {
            refusals.index("fletcher of row " + row, lab -> lab.fletcher(row));
        }
        ChecksumLab lab = new ChecksumLab();
        for (int row = 0; row < 4; row++) {
            lab.append(row, row + 1);
        }
        for (int row = 0; row < 4; row++) {
            due.answer("fletcher of row " + row, lab.fletcher(row), 257 * (row + 1));
        }
    }

    private static void fletcherJoinedSums(Due due) {
        due.sentence("22: IllegalArgumentException if first or second is not 256 * b + a with a and b from 0 to 254");
        ChecksumLab lab = new ChecksumLab();
        for (int a : new int[] {0, 1, 254}) {
            for (int b : new int[] {0, 1, 127, 128, 254}) {
                due.answer("first", lab.fletcherJoined(fletcherSum(a, b), 0, 0), fletcherSum(a, b));
                due.answer("second", lab.fletcherJoined(0, fletcherSum(a, b), 5), fletcherSum(a, b));
            }
        }
        Refusals refusals = new Refusals(due, Labs::withRows);
        for (int bad : NO_FLETCHER_SUMS) {
            refusals.argument("first " + bad, again -> again.fletcherJoined(bad, 0, 0));
            refusals.argument("second " + bad, again -> again.fletcherJoined(0, bad, 0));
            refusals.argument("both " + bad, again -> again.fletcherJoined(bad, bad, 1));
        }
    }

    private static void fletcherJoinedLength(Due due) {
        due.sentence("22: length: 0 or more; IllegalArgumentException if length is negative");
        ChecksumLab lab = new ChecksumLab();
        due.answer("length 0", lab.fletcherJoined(fletcherSum(7, 9), fletcherSum(1, 2), 0), fletcherSum(8, 11));
        due.answer("length 1", lab.fletcherJoined(fletcherSum(7, 9), fletcherSum(1, 2), 1), fletcherSum(8, 18));
        due.answer("the greatest length", lab.fletcherJoined(fletcherSum(1, 0), 0, MAX), fletcherSum(1, MAX % 255));
        Refusals refusals = new Refusals(due, Labs::withRows);
        for (int length : Labs.NO_LENGTHS) {
            refusals.argument("length " + length, again -> again.fletcherJoined(0, 0, length));
            refusals.argument("length " + length, again -> again.fletcherJoined(257, 514, length));
        }
    }

    private static void fletcherJoinedRemainders(Due due) {
        due.sentence("22: a = (a1 + a2) % 255 and b = (b1 + b2 + length * a1) % 255");
        ChecksumLab lab = new ChecksumLab();
        due.answer("a of 254", lab.fletcherJoined(100, 154, 0), 254);
        due.answer("a of 255", lab.fletcherJoined(100, 155, 0), 0);
        due.answer("a of 508", lab.fletcherJoined(254, 254, 0), 253);
        due.answer("b of 254", lab.fletcherJoined(256 * 100, 256 * 154, 0), 256 * 254);
        due.answer("b of 255", lab.fletcherJoined(256 * 100, 256 * 155, 0), 0);
        due.answer("b of 508", lab.fletcherJoined(256 * 254, 256 * 254, 9), 256 * 253);
        due.answer("b of 254 by length", lab.fletcherJoined(127, 0, 2), fletcherSum(127, 254));
        due.answer("b of 255 by length", lab.fletcherJoined(51, 0, 5), fletcherSum(51, 0));
        due.answer("length 254", lab.fletcherJoined(1, 0, 254), fletcherSum(1, 254));
        due.answer("length 255", lab.fletcherJoined(1, 0, 255), fletcherSum(1, 0));
        due.answer("length 256", lab.fletcherJoined(1, 0, 256), fletcherSum(1, 1));
        due.answer("a2 is not taken length times", lab.fletcherJoined(0, 1, 5), 1);
    }

    private static void fletcherJoinedExact(Due due) {
        due.sentence("22: length * a1 is exact");
        ChecksumLab lab = new ChecksumLab();
        for (int length : new int[] {MAX / 254, MAX / 254 + 1, MAX / 2, 1 << 30, MAX - 254, MAX - 1, MAX}) {
            for (int a1 : new int[] {1, 2, 3, 127, 253, 254}) {
                int b = reduced(big(length).multiply(big(a1)).add(big(254 + 254)), 255);
                due.answer("length " + length + ", a1 " + a1,
                        lab.fletcherJoined(fletcherSum(a1, 254), fletcherSum(254, 254), length),
                        fletcherSum((a1 + 254) % 255, b));
            }
        }
    }

    private static void fletcherJoinedRows(Due due) {
        due.sentence("22: returns the Fletcher sum of the first row followed by the second one, of no bytes to 256");
        for (int[] pair : new int[][] {{0, 0}, {0, 1}, {1, 0}, {0, 256}, {256, 0}, {1, 255}, {255, 1}, {128, 128}}) {
            ChecksumLab lab = twoRows(pair[0], pair[1]);
            int first = lab.fletcher(0);
            int second = lab.fletcher(1);
            lab.appendRow(0, 1);
            due.answer(pair[0] + " bytes and " + pair[1], lab.fletcherJoined(first, second, pair[1]), lab.fletcher(0));
        }
    }

    private static ChecksumLab twoRows(int first, int second) {
        ChecksumLab lab = new ChecksumLab();
        if (first > 0) {
            lab.appendSeries(0, 255, 201, first);
        }
        if (second > 0) {
            lab.appendSeries(1, 250, 77, second);
        }
        return lab;
    }

    private static void adlerAtFirst(Due due) {
        due.sentence("23: a, 1 at first, and b, 0 at first");
        ChecksumLab lab = new ChecksumLab();
        for (int row = 0; row < 4; row++) {
            due.answer("adler of row " + row, lab.adler(row), 1);
        }
        lab.appendSeries(2, 77, 3, 9);
        lab.truncate(2, 0);
        due.answer("adler of a row shortened to none", lab.adler(2), 1);
        lab.append(2, 0);
        due.answer("adler of one byte 0", lab.adler(2), adlerSum(1, 1));
        lab.setByte(2, 0, 255);
        due.answer("adler of one byte 255", lab.adler(2), adlerSum(256, 256));
    }

    /** Twenty-three bytes whose b is 65521 before it is reduced. */
    private static ChecksumLab rowWithGreatB(int lastByte) {
        ChecksumLab lab = rowOf(43);
        lab.appendSeries(0, 255, 0, 16);
        lab.append(0, 254);
        lab.appendSeries(0, 255, 0, 4);
        lab.append(0, lastByte);
        return lab;
    }

    private static void adlerB(Due due) {
        due.sentence("23: b becomes (b + a) % 65521");
        due.answer("b is 65520", rowWithGreatB(254).adler(0), adlerSum(1 + 43 + 20 * 255 + 2 * 254, LAST));
        due.answer("b would be 65521", rowWithGreatB(255).adler(0), adlerSum(1 + 43 + 21 * 255 + 254, 0));
        ChecksumLab lab = rowWithGreatB(255);
        lab.append(0, 0);
        due.answer("and one byte more", lab.adler(0), adlerSum(5653, 5653));
    }

    private static void adlerWrapsAround(Due due) {
        due.sentence("23: returns 65536 * b + a, as an int that wraps around");
        ChecksumLab lab = rowOf(135);
        lab.appendSeries(0, 255, 0, 7);
        lab.append(0, 254);
        lab.appendSeries(0, 255, 0, 6);
        lab.append(0, 254);
        int a = 1 + 135 + 13 * 255 + 2 * 254;
        due.answer("b is 32767", lab.adler(0), 32767 * 65536 + a);
        lab.setByte(0, 15, 255);
        due.answer("b is 32768", lab.adler(0), MIN + a + 1);
        due.answer("b is 65520", rowWithGreatB(254).adler(0), -16 * 65536 + 1 + 43 + 20 * 255 + 2 * 254);
    }

    private static void adlerFull(Due due) {
        due.sentence("23: the Adler sum of a full row");
        for (int[] series : new int[][] {{255, 0}, {254, 0}, {0, 0}, {0, 1}, {255, 255}, {200, 77}}) {
            ChecksumLab lab = new ChecksumLab();
            lab.appendSeries(3, series[0], series[1], 256);
            long a = 1;
            long b = 0;
            for (int value : Picture.series(series[0], series[1], 256)) {
                a += value;
                b += a;
            }
            due.answer("from " + series[0] + " by " + series[1], lab.adler(3), adlerSum(a % 65521, b % 65521));
        }
    }

    private static void adlerNoRow(Due due) {
        due.sentence("23: IndexOutOfBoundsException if there is no such row");
        Refusals refusals = new Refusals(due, Labs::withRows);
        for (int row : Labs.NO_ROWS) {
            refusals.index("adler of row " + row, lab -> lab.adler(row));
        }
        ChecksumLab lab = new ChecksumLab();
        for (int row = 0; row < 4; row++) {
            lab.append(row, row);
        }
        for (int row = 0; row < 4; row++) {
            due.answer("adler of row " + row, lab.adler(row), adlerSum(1 + row, 1 + row));
        }
    }

    private static void adlerJoinedSums(Due due) {
        due.sentence("24: IllegalArgumentException if first or second is not 65536 * b + a with both from 0 to 65520");
        ChecksumLab lab = new ChecksumLab();
        for (int a : new int[] {0, 1, 2, 32768, LAST}) {
            for (int b : new int[] {0, 1, 32767, 32768, LAST}) {
                due.answer("first " + a + ", " + b, lab.adlerJoined(adlerSum(a, b), 1, 0), adlerSum(a, b));
                due.answer("second " + a + ", " + b, lab.adlerJoined(1, adlerSum(a, b), 9), adlerSum(a, b));
            }
        }
        Refusals refusals = new Refusals(due, Labs::withRows);
        for (int bad : NO_ADLER_SUMS) {
            refusals.argument("first " + bad, again -> again.adlerJoined(bad, 1, 0));
            refusals.argument("second " + bad, again -> again.adlerJoined(1, bad, 0));
            refusals.argument("both " + bad, again -> again.adlerJoined(bad, bad, 1));
        }
    }

    private static void adlerJoinedLength(Due due) {
        due.sentence("24: length: 0 or more; IllegalArgumentException if length is negative");
        ChecksumLab lab = new ChecksumLab();
        due.answer("length 0", lab.adlerJoined(adlerSum(7, 9), adlerSum(3, 2), 0), adlerSum(9, 11));
        due.answer("length 1", lab.adlerJoined(adlerSum(7, 9), adlerSum(3, 2), 1), adlerSum(9, 17));
        due.answer("the greatest length", lab.adlerJoined(adlerSum(2, 0), 1, MAX), adlerSum(2, MAX % 65521));
        Refusals refusals = new Refusals(due, Labs::withRows);
        for (int length : Labs.NO_LENGTHS) {
            refusals.argument("length " + length, again -> again.adlerJoined(1, 1, length));
            refusals.argument("length " + length, again -> again.adlerJoined(0, 0, length));
        }
    }

    private static void adlerJoinedReduced(Due due) {
        due.sentence("24: both reduced modulo 65521 to 0 to 65520");
        ChecksumLab lab = new ChecksumLab();
        due.answer("a of -1", lab.adlerJoined(0, 0, 0), LAST);
        due.answer("a of 0", lab.adlerJoined(1, 0, 0), 0);
        due.answer("a of 65520", lab.adlerJoined(LAST, 1, 0), LAST);
        due.answer("a of 65521", lab.adlerJoined(LAST, 2, 0), 0);
        due.answer("a of 131039", lab.adlerJoined(LAST, LAST, 0), 65518);
        due.answer("b of -1", lab.adlerJoined(0, 1, 1), adlerSum(0, LAST));
        due.answer("b of -65520", lab.adlerJoined(0, 1, LAST), adlerSum(0, 1));
        due.answer("b of -65521", lab.adlerJoined(0, 1, 65521), adlerSum(0, 0));
        due.answer("b of -65522", lab.adlerJoined(0, 1, 65522), adlerSum(0, LAST));
        due.answer("b of 65520", lab.adlerJoined(adlerSum(1, 65519), adlerSum(1, 1), 0), adlerSum(1, LAST));
        due.answer("b of 65521", lab.adlerJoined(adlerSum(1, LAST), adlerSum(1, 1), 0), 1);
        due.answer("b of 131040", lab.adlerJoined(adlerSum(1, LAST), adlerSum(1, LAST), 0), adlerSum(1, 65519));
        due.answer("b of 65521 by length", lab.adlerJoined(2, 1, 65521), 2);
        due.answer("a2 is not taken length times", lab.adlerJoined(1, 9, 5), 9);
    }

    private static void adlerJoinedExact(Due due) {
        due.sentence("24: a and b are exact");
        ChecksumLab lab = new ChecksumLab();
        for (int length : new int[] {32767, 32778, 1 << 16, 1 << 30, MAX - 65521, MAX - 1, MAX}) {
            for (int a1 : new int[] {0, 1, 2, 3, 32768, 65519, LAST}) {
                for (int b1 : new int[] {0, LAST}) {
                    BigInteger b = big(length).multiply(big(a1 - 1)).add(big(b1 + LAST));
                    due.answer("length " + length + ", a1 " + a1 + ", b1 " + b1,
                            lab.adlerJoined(adlerSum(a1, b1), adlerSum(LAST, LAST), length),
                            adlerSum(reduced(big(a1 + LAST - 1), 65521), reduced(b, 65521)));
                }
            }
        }
    }

    private static void adlerJoinedRows(Due due) {
        due.sentence("24: returns the Adler sum of the first row followed by the second one, of no bytes to 256");
        for (int[] pair : new int[][] {{0, 0}, {0, 1}, {1, 0}, {0, 256}, {256, 0}, {1, 255}, {255, 1}, {128, 128}}) {
            ChecksumLab lab = twoRows(pair[0], pair[1]);
            int first = lab.adler(0);
            int second = lab.adler(1);
            lab.appendRow(0, 1);
            due.answer(pair[0] + " bytes and " + pair[1], lab.adlerJoined(first, second, pair[1]), lab.adler(0));
        }
    }

    private static void adlerRolledSum(Due due) {
        due.sentence("25: IllegalArgumentException if sum is not 65536 * b + a with both from 0 to 65520");
        ChecksumLab lab = new ChecksumLab();
        for (int a : new int[] {1, 2, 32768, LAST}) {
            for (int b : new int[] {0, 1, 32767, 32768, LAST}) {
                due.answer("sum of " + a + ", " + b, lab.adlerRolled(adlerSum(a, b), 1, 0, 0),
                        adlerSum(a, (b + a - 1) % 65521));
            }
        }
        due.answer("sum of 0, 0", lab.adlerRolled(0, 1, 0, 0), adlerSum(0, LAST));
        due.answer("sum of 0, 65520", lab.adlerRolled(adlerSum(0, LAST), 1, 0, 0), adlerSum(0, 65519));
        Refusals refusals = new Refusals(due, Labs::withRows);
        for (int bad : NO_ADLER_SUMS) {
            refusals.argument("sum " + bad, again -> again.adlerRolled(bad, 1, 0, 0));
            refusals.argument("sum " + bad, again -> again.adlerRolled(bad, MAX, 255, 255));
        }
    }

    private static void adlerRolledWindow(Due due) {
        due.sentence("25: window: 1 or more; IllegalArgumentException if window is less than 1");
        ChecksumLab lab = new ChecksumLab();
        due.answer("window 1", lab.adlerRolled(adlerSum(8, 8), 1, 7, 9), adlerSum(10, 10));
        due.answer("window 2", lab.adlerRolled(adlerSum(8, 15), 2, 3, 9), adlerSum(14, 22));
        due.answer("the greatest window", lab.adlerRolled(1, MAX, 1, 1), adlerSum(1, 65521 - MAX % 65521));
        Refusals refusals = new Refusals(due, Labs::withRows);
        for (int window : new int[] {0, -1, MIN, -MAX}) {
            refusals.argument("window " + window, again -> again.adlerRolled(1, window, 0, 0));
            refusals.argument("window " + window, again -> again.adlerRolled(1, window, 255, 255));
        }
    }

    private static void adlerRolledBytes(Due due) {
        due.sentence("25: out and in: 0 to 255; IllegalArgumentException if out or in is out of range");
        ChecksumLab lab = new ChecksumLab();
        due.answer("0 out, 0 in", lab.adlerRolled(adlerSum(1, 1), 1, 0, 0), adlerSum(1, 1));
        due.answer("255 out, 0 in", lab.adlerRolled(adlerSum(256, 256), 1, 255, 0), adlerSum(1, 1));
        due.answer("0 out, 255 in", lab.adlerRolled(adlerSum(1, 1), 1, 0, 255), adlerSum(256, 256));
        due.answer("255 out, 255 in", lab.adlerRolled(adlerSum(256, 256), 1, 255, 255), adlerSum(256, 256));
        Refusals refusals = new Refusals(due, Labs::withRows);
        for (int bad : Labs.NO_BYTES) {
            refusals.argument("out " + bad, again -> again.adlerRolled(1, 1, bad, 0));
            refusals.argument("in " + bad, again -> again.adlerRolled(1, 1, 0, bad));
            refusals.argument("both " + bad, again -> again.adlerRolled(1, 1, bad, bad));
        }
    }

    private static void adlerRolledReduced(Due due) {
        due.sentence("25: both reduced modulo 65521 to 0 to 65520");
        ChecksumLab lab = new ChecksumLab();
        due.answer("a of 0", lab.adlerRolled(adlerSum(5, 6), 1, 5, 0), adlerSum(0, 0));
        due.answer("a of -1", lab.adlerRolled(adlerSum(5, 9), 1, 6, 0), adlerSum(LAST, 1));
        due.answer("a of -255", lab.adlerRolled(0, 1, 255, 0), adlerSum(65266, 65521 - 511));
        due.answer("a of 65520", lab.adlerRolled(adlerSum(65500, 0), 1, 0, 20), adlerSum(LAST, 65519));
        due.answer("a of 65521", lab.adlerRolled(adlerSum(65501, 0), 1, 0, 20), adlerSum(0, LAST));
        due.answer("a of 65775", lab.adlerRolled(adlerSum(LAST, 0), 1, 0, 255), adlerSum(254, 253));
        due.answer("b of 0", lab.adlerRolled(adlerSum(1, 0), 1, 0, 0), adlerSum(1, 0));
        due.answer("b of -1", lab.adlerRolled(adlerSum(0, 0), 9, 0, 0), adlerSum(0, LAST));
        due.answer("b of 65520", lab.adlerRolled(adlerSum(2, 65519), 9, 0, 0), adlerSum(2, LAST));
        due.answer("b of 65521", lab.adlerRolled(adlerSum(2, LAST), 9, 0, 0), adlerSum(2, 0));
        due.answer("b of -65521", lab.adlerRolled(adlerSum(1, 0), 65521, 1, 1), adlerSum(1, 0));
        due.answer("b of -65520", lab.adlerRolled(adlerSum(1, 0), LAST, 1, 1), adlerSum(1, 1));
        due.answer("b of -65522", lab.adlerRolled(adlerSum(1, 0), 65522, 1, 1), adlerSum(1, LAST));
    }

    private static void adlerRolledExact(Due due) {
        due.sentence("25: a and b are exact");
        ChecksumLab lab = new ChecksumLab();
        int[] sums = {0, LAST, adlerSum(0, LAST), adlerSum(LAST, LAST)};
        for (int window : new int[] {MAX / 255, MAX / 255 + 1, 1 << 24, 1 << 30, MAX - 65521, MAX - 1, MAX}) {
            for (int sum : sums) {
                for (int out : new int[] {0, 1, 2, 128, 254, 255}) {
                    BigInteger a = big((sum & 65535) + 255 - out);
                    BigInteger b = big(sum >>> 16).subtract(big(window).multiply(big(out))).add(a).subtract(big(1));
                    due.answer("sum " + sum + ", window " + window + ", out " + out,
                            lab.adlerRolled(sum, window, out, 255), adlerSum(reduced(a, 65521), reduced(b, 65521)));
                }
            }
        }
    }

    private static void adlerRolledRows(Due due) {
        due.sentence("25: returns the Adler sum of the window that begins one byte later, of 1 byte to 255");
        int[] bytes = Picture.series(255, 201, 256);
        for (int window : new int[] {1, 2, 254, 255}) {
            for (int from = 0; from + window < 256; from += Math.max(1, 255 - window)) {
                ChecksumLab lab = new ChecksumLab();
                lab.appendSeries(0, bytes[from], 201, window);
                lab.appendSeries(1, bytes[from + 1], 201, window);
                due.answer("window " + window + " from " + from,
                        lab.adlerRolled(lab.adler(0), window, bytes[from], bytes[from + window]), lab.adler(1));
            }
        }
    }
}
