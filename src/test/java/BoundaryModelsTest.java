import java.math.BigInteger;

/** The sentences of promises 2 to 7 that name a boundary: one test for each. */
public final class BoundaryModelsTest {
    private static final int MAX = Integer.MAX_VALUE;
    private static final int MIN = Integer.MIN_VALUE;

    public static void main(String[] args) {
        Due due = new Due();
        due.run(BoundaryModelsTest::defineWidth);
        due.run(BoundaryModelsTest::definePoly);
        due.run(BoundaryModelsTest::defineInit);
        due.run(BoundaryModelsTest::defineXorOut);
        due.run(BoundaryModelsTest::defineReturns);
        due.run(BoundaryModelsTest::defineFull);
        due.run(BoundaryModelsTest::models);
        due.run(BoundaryModelsTest::check);
        due.run(BoundaryModelsTest::checkNoModel);
        due.run(BoundaryModelsTest::multiplyNumbers);
        due.run(BoundaryModelsTest::multiplyRemainder);
        due.run(BoundaryModelsTest::multiplyNoModel);
        due.run(BoundaryModelsTest::powerExponent);
        due.run(BoundaryModelsTest::powerRemainder);
        due.run(BoundaryModelsTest::powerNoModel);
        due.run(BoundaryModelsTest::periodLimit);
        due.run(BoundaryModelsTest::periodUpToLimit);
        due.run(BoundaryModelsTest::periodSmallest);
        due.run(BoundaryModelsTest::periodNone);
        due.run(BoundaryModelsTest::periodNoModel);
        due.finish();
    }

    private static void defineWidth(Due due) {
        due.sentence("2: width: the number of bits w, 1 to 32");
        for (int width : new int[] {1, 2, 31, 32}) {
            ChecksumLab lab = new ChecksumLab();
            due.answer("width " + width, lab.define(width, 0, 0, false, false, 0), 0);
        }
        for (int count : new int[] {0, 3}) {
            Refusals refusals = new Refusals(due, () -> Labs.withModels(count));
            for (int width : new int[] {0, -1, 33, 64, -31, MIN, MAX}) {
                refusals.argument("width " + width, lab -> lab.define(width, 0, 0, false, false, 0));
                refusals.argument("width " + width + " and poly 1", lab -> lab.define(width, 1, 0, true, true, 0));
            }
        }
    }

    private static void definePoly(Due due) {
        due.sentence("2: poly: a number with w bits");
        for (int w = 1; w <= 32; w++) {
            int width = w;
            int all = Labs.allBits(width);
            for (int poly : new int[] {0, 1, 1 << (width - 1), all}) {
                ChecksumLab lab = new ChecksumLab();
                due.answer("define", lab.define(width, poly, 0, false, false, 0), 0);
                due.answer("x^w, width " + width + ", poly " + poly, lab.power(0, width), poly);
            }
            if (width < 32) {
                Refusals refusals = new Refusals(due, () -> Labs.withModels(1));
                for (int bad : Labs.notNumbers(width)) {
                    refusals.argument("poly " + bad, lab -> lab.define(width, bad, 0, false, false, 0));
                }
            }
        }
    }

    private static void defineInit(Due due) {
        due.sentence("2: init: the first value of the register, a number with w bits");
        for (int w = 1; w <= 32; w++) {
            int width = w;
            int all = Labs.allBits(width);
            for (int init : new int[] {0, 1, 1 << (width - 1), all}) {
                ChecksumLab lab = new ChecksumLab();
                due.answer("define", lab.define(width, 1, init, false, false, 0), 0);
                due.answer("the register of an empty row", lab.sum(0, 0), init);
            }
            if (width < 32) {
                Refusals refusals = new Refusals(due, () -> Labs.withModels(1));
                for (int bad : Labs.notNumbers(width)) {
                    refusals.argument("init " + bad, lab -> lab.define(width, 0, bad, false, false, 0));
                }
            }
        }
    }

    private static void defineXorOut(Due due) {
        due.sentence("2: xorOut: what is added at the end, a number with w bits");
        for (int w = 1; w <= 32; w++) {
            int width = w;
            int all = Labs.allBits(width);
            for (int xorOut : new int[] {0, 1, 1 << (width - 1), all}) {
                ChecksumLab lab = new ChecksumLab();
                due.answer("define", lab.define(width, 1, all, false, true, xorOut), 0);
                due.answer("the sum of an empty row", lab.sum(0, 0), all ^ xorOut);
            }
            if (width < 32) {
                Refusals refusals = new Refusals(due, () -> Labs.withModels(1));
                for (int bad : Labs.notNumbers(width)) {
                    refusals.argument("xorOut " + bad, lab -> lab.define(width, 0, 0, false, false, bad));
                }
            }
        }
    }

    private static void defineReturns(Due due) {
        due.sentence("2: returns the number of the model");
        ChecksumLab lab = new ChecksumLab();
        for (int number = 0; number < 6; number++) {
            int next = number;
            due.index("the model that comes next", () -> lab.check(next));
            due.argument("a refused define", () -> lab.define(33, 0, 0, false, false, 0));
            due.answer("define", lab.define(8, 0, 0, false, false, 100 + number), number);
            due.answer("its sum of an empty row", lab.sum(number, 0), 100 + number);
        }
    }

    private static void defineFull(Due due) {
        due.sentence("2: throws IllegalStateException if there are 6 models already");
        ChecksumLab lab = Labs.withModels(5);
        due.answer("the sixth", lab.define(8, 7, 0, false, false, 0), 5);
        due.answer("its check", lab.check(5), 0xF4);
        Refusals refusals = new Refusals(due, () -> Labs.withModels(6));
        refusals.state("the seventh", again -> again.define(8, 7, 0, false, false, 0));
        refusals.state("the seventh of width 1", again -> again.define(1, 0, 0, false, false, 0));
        refusals.state("the seventh of width 32", again -> again.define(32, -1, -1, true, true, -1));
        refusals.state("the eighth", again -> secondOfTwo(again));
    }

    private static int secondOfTwo(ChecksumLab lab) {
        try {
            lab.define(8, 7, 0, false, false, 0);
        } catch (IllegalStateException e) {
            return lab.define(8, 7, 0, false, false, 0);
        }
        return 0;
    }

    private static void models(Due due) {
        due.sentence("3: returns 0 to 6");
        for (int count = 0; count <= 6; count++) {
            ChecksumLab lab = Labs.withModels(count);
            due.answer("models", lab.models(), count);
            due.answer("models again", lab.models(), count);
        }
        ChecksumLab lab = Labs.withModels(6);
        due.state("one more", () -> lab.define(8, 7, 0, false, false, 0));
        due.answer("models after it", lab.models(), 6);
    }

    private static void check(Due due) {
        due.sentence("4: the sum of the nine bytes 49 to 57, whatever is in the rows");
        Numbers numbers = new Numbers(41);
        for (int width = 1; width <= 32; width++) {
            Reference reference = Reference.any(numbers, width);
            ChecksumLab lab = new ChecksumLab();
            reference.defineIn(lab);
            int want = reference.sum(Picture.series(49, 1, 9));
            String empty = Picture.of(lab);
            due.answer(reference + ": check with empty rows", lab.check(0), want);
            due.same("the rows after it", Picture.of(lab), empty);
            for (int row = 0; row < 4; row++) {
                lab.appendSeries(row, 7, 3, 256);
            }
            String full = Picture.of(lab);
            due.answer(reference + ": check with full rows", lab.check(0), want);
            due.same("the rows after it", Picture.of(lab), full);
        }
    }

    private static void checkNoModel(Due due) {
        due.sentence("4: throws IndexOutOfBoundsException if there is no such model");
        for (int count : new int[] {0, 1, 2, 3, 4, 5, 6}) {
            Refusals refusals = new Refusals(due, () -> Labs.withModels(count));
            for (int model : new int[] {-1, count, 6, 7, MIN, MAX}) {
                refusals.index("check of model " + model + " of " + count, lab -> lab.check(model));
            }
        }
    }

    private static void multiplyNumbers(Due due) {
        due.sentence("5: a and b: numbers with w bits");
        for (int w = 1; w <= 32; w++) {
            int width = w;
            int all = Labs.allBits(width);
            Reference reference = new Reference(width, 1, 0, false, false, 0);
            ChecksumLab lab = new ChecksumLab();
            reference.defineIn(lab);
            due.answer("none times all", lab.multiply(0, 0, all), 0);
            due.answer("all times none", lab.multiply(0, all, 0), 0);
            due.answer("all times 1", lab.multiply(0, all, 1), all);
            due.answer("1 times all", lab.multiply(0, 1, all), all);
            due.answer("all times all", lab.multiply(0, all, all), reference.multiply(all, all));
            if (width < 32) {
                Refusals refusals = new Refusals(due, () -> oneModel(reference));
                for (int bad : Labs.notNumbers(width)) {
                    refusals.argument("a " + bad, again -> again.multiply(0, bad, 0));
                    refusals.argument("b " + bad, again -> again.multiply(0, 0, bad));
                    refusals.argument("both " + bad, again -> again.multiply(0, bad, bad));
                }
            }
        }
    }

    private static ChecksumLab oneModel(Reference reference) {
        ChecksumLab lab = new ChecksumLab();
        reference.defineIn(lab);
        return lab;
    }

    private static void multiplyRemainder(Due due) {
        due.sentence("5: the remainder of the product when it is divided by P");
        for (int width = 1; width <= 32; width++) {
            int all = Labs.allBits(width);
            int highest = 1 << (width - 1);
            for (int poly : new int[] {0, 1, highest, all}) {
                Reference reference = new Reference(width, poly, all, true, true, all);
                ChecksumLab lab = oneModel(reference);
                for (int k = 0; k < width; k++) {
                    due.answer("a product of degree w - 1", lab.multiply(0, 1 << k, highest >>> k), highest);
                    if (k > 0) {
                        int other = 1 << (width - k);
                        due.answer("a product of degree w", lab.multiply(0, 1 << k, other), poly);
                    }
                }
                due.answer("the highest times itself", lab.multiply(0, highest, highest),
                        reference.multiply(highest, highest));
                due.answer("all times the highest", lab.multiply(0, all, highest), reference.multiply(all, highest));
                due.answer("all times itself", lab.multiply(0, all, all), reference.multiply(all, all));
            }
        }
    }

    private static void multiplyNoModel(Due due) {
        due.sentence("5: throws IndexOutOfBoundsException if there is no such model");
        for (int count : new int[] {0, 2, 6}) {
            Refusals refusals = new Refusals(due, () -> Labs.withModels(count));
            for (int model : new int[] {-1, count, 6, MIN, MAX}) {
                refusals.index("multiply", lab -> lab.multiply(model, 1, 1));
                refusals.index("multiply of a -1", lab -> lab.multiply(model, -1, 1));
                refusals.index("multiply of b -1", lab -> lab.multiply(model, 1, -1));
            }
        }
    }

    private static void powerExponent(Due due) {
        due.sentence("6: exponent: 0 or more");
        for (int width = 1; width <= 32; width++) {
            int all = Labs.allBits(width);
            for (int poly : new int[] {0, 1, all}) {
                Reference reference = new Reference(width, poly, all, true, true, all);
                ChecksumLab lab = oneModel(reference);
                due.answer("x^0", lab.power(0, 0), 1);
                due.answer("x^1", lab.power(0, 1), width == 1 ? poly : 2);
                for (long exponent : new long[] {MAX, MAX + 1L, 0xFFFFFFFFL, 1L << 32, Long.MAX_VALUE}) {
                    due.answer("x^" + exponent, lab.power(0, exponent),
                            reference.power(BigInteger.valueOf(exponent)).intValue());
                }
                Refusals refusals = new Refusals(due, () -> oneModel(reference));
                for (long exponent : new long[] {-1, MIN, -(1L << 32), Long.MIN_VALUE, Long.MIN_VALUE + 1}) {
                    refusals.argument("exponent " + exponent, again -> again.power(0, exponent));
                }
            }
        }
    }

    private static void powerRemainder(Due due) {
        due.sentence("6: the remainder of the power when it is divided by P");
        for (int width = 1; width <= 32; width++) {
            int all = Labs.allBits(width);
            for (int poly : new int[] {0, 1, 1 << (width - 1), all}) {
                Reference reference = new Reference(width, poly, 0, false, false, 0);
                ChecksumLab lab = oneModel(reference);
                due.answer("the highest power below P", lab.power(0, width - 1), 1 << (width - 1));
                due.answer("the power of the degree of P", lab.power(0, width), poly);
                due.answer("one power more", lab.power(0, width + 1),
                        reference.power(BigInteger.valueOf(width + 1)).intValue());
            }
        }
    }

    private static void powerNoModel(Due due) {
        due.sentence("6: throws IndexOutOfBoundsException if there is no such model");
        for (int count : new int[] {0, 2, 6}) {
            Refusals refusals = new Refusals(due, () -> Labs.withModels(count));
            for (int model : new int[] {-1, count, 6, MIN, MAX}) {
                refusals.index("power", lab -> lab.power(model, 0));
                refusals.index("power of -1", lab -> lab.power(model, -1));
            }
        }
    }

    private static void periodLimit(Due due) {
        due.sentence("7: limit: 1 to 70000");
        ChecksumLab lab = new ChecksumLab();
        lab.define(1, 1, 0, false, false, 0);
        lab.define(2, 1, 0, false, false, 0);
        due.answer("limit 1 and period 1", lab.period(0, 1), 1);
        due.answer("limit 1 and period 2", lab.period(1, 1), ChecksumLab.NONE);
        due.answer("limit 70000 and period 1", lab.period(0, 70000), 1);
        due.answer("limit 70000 and period 2", lab.period(1, 70000), 2);
        Refusals refusals = new Refusals(due, () -> Labs.withModels(2));
        for (int limit : new int[] {0, -1, 70001, MIN, MAX}) {
            refusals.argument("limit " + limit, again -> again.period(0, limit));
            refusals.argument("limit " + limit, again -> again.period(1, limit));
        }
    }

    /** The two polynomials with periods 69904 and 69905 are the nearest ones below 70000. */
    private static void periodUpToLimit(Due due) {
        due.sentence("7: the greatest exponent that is tried");
        ChecksumLab lab = new ChecksumLab();
        lab.define(25, 0x1017D7F, 0, false, false, 0);
        lab.define(20, 0x00207, 0, false, false, 0);
        lab.define(32, 1, -1, true, true, -1);
        int[] periods = {69904, 69905, 32};
        for (int model = 0; model < periods.length; model++) {
            int period = periods[model];
            due.answer("a limit below the period", lab.period(model, period - 1), ChecksumLab.NONE);
            due.answer("the period as the limit", lab.period(model, period), period);
            due.answer("a limit above the period", lab.period(model, period + 1), period);
            due.answer("the greatest limit", lab.period(model, 70000), period);
        }
    }

    private static void periodSmallest(Due due) {
        due.sentence("7: the smallest exponent, 1 or more, for which power() is 1");
        for (int width = 1; width <= 32; width++) {
            ChecksumLab lab = new ChecksumLab();
            lab.define(width, 1, 0, false, false, 0);
            lab.define(width, Labs.allBits(width), 0, true, false, 1);
            due.answer("P = x^w + 1", lab.period(0, 70000), width);
            due.answer("P = x^w + .. + 1", lab.period(1, 70000), width == 1 ? 1 : width + 1);
            due.answer("its power is 1", lab.power(0, lab.period(0, 70000)), 1);
            due.answer("its power is 1", lab.power(1, lab.period(1, 70000)), 1);
        }
    }

    private static void periodNone(Due due) {
        due.sentence("7: NONE if none up to limit is one");
        for (int width = 1; width <= 32; width++) {
            ChecksumLab lab = new ChecksumLab();
            lab.define(width, 0, 0, false, false, 0);
            due.answer("P = x^w", lab.period(0, 70000), ChecksumLab.NONE);
            if (width > 1) {
                lab.define(width, 2, 0, false, false, 0);
                due.answer("P = x^w + x", lab.period(1, 70000), ChecksumLab.NONE);
            }
        }
        ChecksumLab lab = new ChecksumLab();
        lab.define(31, 0x22925881, 0, false, false, 0);
        lab.define(25, 0x0CFA35D, 0, false, false, 0);
        lab.define(17, 9, 0, false, false, 0);
        lab.define(32, 0x04C11DB7, 0, false, false, 0);
        due.answer("a period of 70091", lab.period(0, 70000), ChecksumLab.NONE);
        due.answer("its power is 1", lab.power(0, 70091), 1);
        due.answer("a period of 70104", lab.period(1, 70000), ChecksumLab.NONE);
        due.answer("its power is 1", lab.power(1, 70104), 1);
        due.answer("a period of 2^17 - 1", lab.period(2, 70000), ChecksumLab.NONE);
        due.answer("a period of 2^32 - 1", lab.period(3, 70000), ChecksumLab.NONE);
    }

    private static void periodNoModel(Due due) {
        due.sentence("7: throws IndexOutOfBoundsException if there is no such model");
        for (int count : new int[] {0, 2, 6}) {
            Refusals refusals = new Refusals(due, () -> Labs.withModels(count));
            for (int model : new int[] {-1, count, 6, MIN, MAX}) {
                refusals.index("period", lab -> lab.period(model, 1));
                refusals.index("period of limit 0", lab -> lab.period(model, 0));
                refusals.index("period of limit 70001", lab -> lab.period(model, 70001));
            }
        }
    }
}
