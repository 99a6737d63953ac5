/**
 * The boundary cases that the promises name, a method for each sentence; what is refused stands in
 * RefusalTest, and what follows from the terms (ranges, modes, styles) in TermsTest.
 */
public final class EdgesTest {
    private static final int NO_AMOUNT = TwofoldAmounts.NO_AMOUNT;
    private static final int RANGE = TwofoldAmounts.RANGE;
    private static final int BAD = TwofoldAmounts.BAD;
    private static final int INEXACT = TwofoldAmounts.INEXACT;
    private static final int LOW = Integer.MIN_VALUE;
    private static final int HIGH = Integer.MAX_VALUE;
    private static final long MAX = Long.MAX_VALUE;
    private static final long MIN = Long.MIN_VALUE;
    private static final String NINES = "99999999999999999999999999";

    public static void main(String[] args) {
        newObjectIsEmpty();
        precisionIsFrom19To30();
        scaleIsFrom5To10();
        modeIsFrom0To6();
        setOfNothing();
        sumsOfNothing();
        productsOfNothing();
        quotientsByThemselves();
        negateDoesNotRound();
        negateRangeFastAlone();
        roundToNothing();
        roundInCash();
        roundWithoutTheContext();
        ratioFrom0To1000000();
        allocateCounts();
        allocateWithoutARest();
        allocateTheUnitsThatAreLeft();
        allocateByTheFirstRatiosAlone();
        allocateToEqualRemainders();
        allocateNothingToRatiosOf0();
        allocateLittle();
        allocateTheGreatest();
        allocateBelowZero();
        allocateMultiplesAlone();
        compareBesideEachOther();
        signOfTheLeast();
        kindOfAll();
        digitsInHalves();
        discardTwice();
        formatRoundsHalvesToEven();
        formatOfLessThanNothing();
        formatOfNothing();
        formatWithoutNeedlessZeros();
        formatGroups();
        formatOfTheGreatest();
        typeTheFirstAndTheLast();
        wipeTwice();
        letterOfAnEmptyText();
        parseOfAnEmptyText();
        parseOfATextThatEndsTooEarly();
        parseOfATextThatGoesOn();
        parseOfFullTexts();
        parseWrongAtEachPlace();
        parseLeavesTheText();
        parseRange();
        Checks.done();
    }

    private static TwofoldAmounts fresh() {
        return new TwofoldAmounts(30, 10, 6);
    }

    private static void value(TwofoldAmounts x, int r, String want) {
        Checks.due("register " + r, Asked.value(x, r), want);
    }

    private static void values(TwofoldAmounts x, int first, String... want) {
        for (int i = 0; i < want.length; i++) {
            value(x, first + i, want[i]);
        }
    }

    private static void ratios(TwofoldAmounts x, int... weights) {
        for (int i = 0; i < weights.length; i++) {
            Checks.due("ratio", x.ratio(i, weights[i]), true);
        }
    }

    private static void newObjectIsEmpty() {
        Checks.sentence("1: All registers are empty, all ratios 0, the text is empty");
        TwofoldAmounts x = new TwofoldAmounts(LOW, HIGH, LOW);
        for (int r = 0; r < 8; r++) {
            Checks.due("sign " + r, x.sign(r), NO_AMOUNT);
        }
        Checks.due("letter 0", x.letter(0), BAD);
        Checks.due("parse", x.parse(0, true, 0), -100);
        x.set(7, false, 0, 1, 0);
        for (int n = 1; n < 8; n++) {
            Checks.due("allocate by " + n, x.allocate(7, 0, n), BAD);
        }
        ratios(x, 0, 0, 0, 1);
        Checks.due("allocate by the fourth alone", x.allocate(7, 0, 7), 0);
        values(x, 0, "0", "0", "0", "1", "0", "0", "0");
    }

    private static void precisionIsFrom19To30() {
        Checks.sentence("1: P is precision, but 19 if it is less, 30 if it is more");
        int[] given = {LOW, -1, 0, 18, 19, 20, 25, 26, 29, 30, 31, HIGH};
        String[] due = {
            "12345678901234567890000000", "12345678901234567890000000", "12345678901234567890000000",
            "12345678901234567890000000", "12345678901234567890000000", "12345678901234567890000000",
            "12345678901234567890123450", "12345678901234567890123456", "12345678901234567890123456.789",
            "12345678901234567890123456.7891", "12345678901234567890123456.7891", "12345678901234567890123456.7891"
        };
        for (int i = 0; i < given.length; i++) {
            TwofoldAmounts x = new TwofoldAmounts(given[i], 10, 1);
            Asked.put(x, 0, true, "AAA 12345678901234567890123456.7891234567");
            Checks.due("precision " + given[i], Asked.value(x, 0), due[i]);
        }
        int[] digits = {19, 20, 21, 22, 23, 24, 25, 26};
        for (int precision : digits) {
            TwofoldAmounts x = new TwofoldAmounts(precision, 10, 1);
            Asked.put(x, 0, true, "AAA " + NINES);
            String zeros = "00000000".substring(0, 26 - precision);
            Checks.due("precision " + precision, Asked.value(x, 0), NINES.substring(0, precision) + zeros);
        }
    }

    private static void scaleIsFrom5To10() {
        Checks.sentence("1: S is scale, but from 5 to 10 likewise");
        int[] given = {LOW, -1, 0, 4, 5, 6, 7, 8, 9, 10, 11, HIGH};
        int[] held = {5, 5, 5, 5, 5, 6, 7, 8, 9, 10, 10, 10};
        for (int i = 0; i < given.length; i++) {
            TwofoldAmounts x = new TwofoldAmounts(19, given[i], 1);
            x.set(0, true, 0, 1, 0);
            x.divide(1, 0, 9, 0);
            Checks.due("scale " + given[i], Asked.value(x, 1), "0." + "1111111111".substring(0, held[i]));
            TwofoldAmounts away = new TwofoldAmounts(19, given[i], 0);
            away.set(0, true, 0, 1, 0);
            away.divide(1, 0, 9, 0);
            String due = "0." + "1111111111".substring(1, held[i]) + "2";
            Checks.due("scale " + given[i], Asked.value(away, 1), due);
        }
    }

    private static void modeIsFrom0To6() {
        Checks.sentence("1: M is mode, but from 0 to 6 likewise");
        int[] given = {LOW, -1, 0, 1, 2, 3, 4, 5, 6, 7, 8, HIGH};
        int[] half = {1, 1, 1, 0, 1, 0, 1, 0, 0, 0, 0, 0};
        int[] threeHalves = {2, 2, 2, 1, 2, 1, 2, 1, 2, 2, 2, 2};
        int[] below = {-1, -1, -1, 0, 0, -1, -1, 0, 0, 0, 0, 0};
        int[] little = {1, 1, 1, 0, 1, 0, 0, 0, 0, 0, 0, 0};
        for (int i = 0; i < given.length; i++) {
            TwofoldAmounts x = new TwofoldAmounts(19, 5, given[i]);
            long[] numbers = {5, 15, -5, 1};
            int[] due = {half[i], threeHalves[i], below[i], little[i]};
            for (int j = 0; j < 4; j++) {
                Checks.due("set", x.set(0, true, 0, numbers[j], 6), 0);
                Checks.due("mode " + given[i] + " of " + numbers[j], x.sign(0) * x.digits(0, 0), due[j] * 100000L);
            }
        }
    }

    private static void setOfNothing() {
        Checks.sentence("2: Register r becomes the number n, k of a currency, fast or wide: 0 of each");
        for (int k = 0; k < 10; k++) {
            for (int c = 0; c < 6; c++) {
                TwofoldAmounts x = new TwofoldAmounts(19, 5, 0);
                Checks.due("set", x.set(c, k % 2 == 0, c, 0, k), 0);
                value(x, c, "0");
                Checks.due("kind", x.kind(c), c + (k % 2 == 0 ? 8 : 0));
            }
        }
    }

    private static void sumsOfNothing() {
        Checks.sentence("3, 4: Register r becomes a + b, a - b: of 0");
        TwofoldAmounts x = new TwofoldAmounts(19, 5, 0);
        for (int kind = 0; kind < 2; kind++) {
            x.set(0, kind == 1, 0, 0, 0);
            x.set(1, kind == 1, 0, -5, 5);
            Checks.due("0 + 0", x.add(2, 0, 0), 0);
            value(x, 2, "0");
            Checks.due("0 - 0", x.subtract(2, 0, 0), 0);
            value(x, 2, "0");
            Checks.due("0 + a", x.add(2, 0, 1), 0);
            value(x, 2, "-0.00005");
            Checks.due("0 - a", x.subtract(2, 0, 1), 0);
            value(x, 2, "0.00005");
            Checks.due("a + -a", x.add(2, 1, 2), 0);
            value(x, 2, "0");
            Checks.due("a - a", x.subtract(2, 1, 1), 0);
            value(x, 2, "0");
            Checks.due("the sign", x.sign(2), 0);
            Checks.due("the same 0", x.compare(0, 2), 0);
        }
    }

    private static void productsOfNothing() {
        Checks.sentence("5: Register r becomes a times the number n, k: 0, 1 and -1 times");
        TwofoldAmounts x = new TwofoldAmounts(30, 10, 0);
        for (int kind = 0; kind < 2; kind++) {
            x.set(0, kind == 1, 3, -12345, 5);
            Checks.due("times 0", x.multiply(1, 0, 0, 0), 0);
            value(x, 1, "0");
            Checks.due("sign", x.sign(1), 0);
            Checks.due("kind", x.kind(1), 3 + 8 * kind);
            Checks.due("0 times", x.multiply(1, 1, MIN, 9), 0);
            value(x, 1, "0");
            Checks.due("times 1", x.multiply(1, 0, 1000000000, 9), 0);
            value(x, 1, "-0.12345");
            Checks.due("times -1", x.multiply(1, 0, -1, 0), 0);
            value(x, 1, "0.12345");
        }
    }

    private static void quotientsByThemselves() {
        Checks.sentence("6: Register r becomes a divided by the number n, k: by 1, by -1, by a itself, of 0");
        TwofoldAmounts x = new TwofoldAmounts(30, 10, 0);
        for (int kind = 0; kind < 2; kind++) {
            x.set(0, kind == 1, 3, -12345, 5);
            Checks.due("by 1", x.divide(1, 0, 1, 0), 0);
            value(x, 1, "-0.12345");
            Checks.due("by -1", x.divide(1, 0, -1000000000, 9), 0);
            value(x, 1, "0.12345");
            Checks.due("by itself", x.divide(1, 0, -12345, 5), 0);
            value(x, 1, "1");
            x.set(1, kind == 1, 3, 0, 0);
            Checks.due("0 by the least", x.divide(1, 1, MIN, 0), 0);
            value(x, 1, "0");
            Checks.due("sign", x.sign(1), 0);
            Checks.due("0 by the greatest", x.divide(1, 1, MAX, 9), 0);
            Checks.due("0 by 0", x.divide(1, 1, 0, 0), TwofoldAmounts.ZERO);
            x.set(0, kind == 1, 3, MIN, 5);
            Checks.due("the least by itself", x.divide(1, 0, MIN, 5), 0);
            value(x, 1, "1");
        }
    }

    private static void negateDoesNotRound() {
        Checks.sentence("7: Register r becomes -a, of a's kind and currency (no rounding)");
        for (int mode = 0; mode < 7; mode++) {
            TwofoldAmounts x = new TwofoldAmounts(19, 5, mode);
            Asked.put(x, 0, true, "AAA 99999999999999999990000000");
            ratios(x, 1, 2);
            x.allocate(0, 1, 2);
            value(x, 1, "33333333333333333330000000");
            ratios(x, 1, 6);
            x.allocate(0, 1, 2);
            Checks.due("negate", x.negate(3, 2), 0);
            value(x, 3, "-85714285714285714277142857.14");
            Checks.due("and back", x.negate(3, 3), 0);
            Checks.due("compare", x.compare(3, 2), 0);
        }
        TwofoldAmounts x = fresh();
        x.set(0, true, 5, 0, 0);
        Checks.due("0", x.negate(0, 0), 0);
        Checks.due("0 has no sign", x.sign(0), 0);
        x.set(1, true, 5, 0, 0);
        Checks.due("0 is 0", x.compare(0, 1), 0);
    }

    private static void negateRangeFastAlone() {
        Checks.sentence("7: RANGE (fast alone)");
        TwofoldAmounts x = fresh();
        x.set(0, false, 2, MIN, 5);
        Checks.due("fast", x.negate(1, 0), RANGE);
        x.set(0, false, 2, MIN + 1, 5);
        Checks.due("fast", x.negate(1, 0), 0);
        value(x, 1, "92233720368547.75807");
        x.set(0, true, 2, MIN, 5);
        Checks.due("wide", x.negate(1, 0), 0);
        value(x, 1, "92233720368547.75808");
        Asked.put(x, 0, true, "AAA -" + NINES + ".9999");
        Checks.due("the least wide one", x.negate(1, 0), 0);
        value(x, 1, NINES + ".9999");
        Checks.due("the greatest wide one", x.negate(1, 1), 0);
        value(x, 1, "-" + NINES + ".9999");
    }

    private static void roundToNothing() {
        Checks.sentence("8: rounded by a mode to a multiple of the unit: to 0, or to the first one");
        int[] digits = {2, 0, 3, 4, 2, 1};
        int[] above = {1, 0, 1, 0, 0, 0, 0};
        int[] below = {1, 0, 0, 1, 0, 0, 0};
        int[] half = {1, 0, 1, 0, 1, 0, 0};
        int[] aboveHalf = {1, 0, 1, 0, 1, 1, 1};
        for (int c = 0; c < 6; c++) {
            for (int mode = 0; mode < 7; mode++) {
                TwofoldAmounts x = fresh();
                String call = "currency " + c + " by mode " + mode;
                long unit = 10000000000L;
                for (int i = 0; i < digits[c]; i++) {
                    unit /= 10;
                }
                for (int k = digits[c] + 1; k < 10; k++) {
                    x.set(0, true, c, 1, k);
                    Checks.due(call, x.round(1, 0, mode, false), 0);
                    Checks.due(call, x.sign(1) * x.digits(1, 0), above[mode] * unit);
                    x.negate(0, 0);
                    Checks.due(call, x.round(1, 0, mode, false), 0);
                    Checks.due(call, x.sign(1) * x.digits(1, 0), -below[mode] * unit);
                }
                x.set(0, false, c, 5, digits[c] + 1);
                Checks.due(call, x.round(1, 0, mode, false), 0);
                Checks.due(call, x.sign(1) * x.digits(1, 0), half[mode] * unit);
                long five = 5;
                for (int k = digits[c] + 2; k < 10; k++) {
                    five *= 10;
                    x.set(2, true, c, five + 1, k);
                    Checks.due(call, x.round(1, 2, mode, false), 0);
                    Checks.due(call, x.sign(1) * x.digits(1, 0), aboveHalf[mode] * unit);
                    x.set(2, true, c, five - 1, k);
                    Checks.due(call, x.round(1, 2, mode, false), 0);
                    Checks.due(call, x.sign(1) * x.digits(1, 0), above[mode] * unit);
                }
                Checks.due(call, x.round(1, 0, 7, false), INEXACT);
            }
        }
    }

    private static void cash(TwofoldAmounts x, String amount, int mode, String due) {
        Asked.put(x, 0, true, amount);
        Checks.due("cash of " + amount, x.round(1, 0, mode, true), 0);
        Checks.due("cash of " + amount + " by mode " + mode, Asked.value(x, 1), due);
    }

    private static void roundInCash() {
        Checks.sentence("8: rounded by a mode to a multiple of the unit (or cash unit) of its currency");
        TwofoldAmounts x = fresh();
        cash(x, "EEE 0.0249999999", 6, "0");
        cash(x, "EEE 0.025", 6, "0");
        cash(x, "EEE 0.0250000001", 6, "0.05");
        cash(x, "EEE 0.075", 6, "0.1");
        cash(x, "EEE -0.075", 5, "-0.05");
        cash(x, "EEE -0.075", 4, "-0.1");
        cash(x, "EEE -0.0000000001", 3, "-0.05");
        cash(x, "EEE -0.0999999999", 2, "-0.05");
        cash(x, "EEE 0.9999999999", 0, "1");
        cash(x, "EEE 0.9999999999", 1, "0.95");
        x = fresh();
        cash(x, "FFF 0.0999999999", 6, "0");
        cash(x, "FFF 0.1", 6, "0");
        cash(x, "FFF 0.1000000001", 6, "0.2");
        cash(x, "FFF 0.3", 6, "0.4");
        cash(x, "FFF -0.3", 5, "-0.2");
        cash(x, "FFF -0.3", 4, "-0.4");
        cash(x, "FFF -0.0000000001", 3, "-0.2");
        cash(x, "FFF -0.3999999999", 2, "-0.2");
        cash(x, "FFF 0.9999999999", 0, "1");
        cash(x, "FFF 0.9999999999", 1, "0.8");
        cash(x, "FFF 9.9", 6, "10");
        x = fresh();
        cash(x, "AAA 0.0149999999", 0, "0.02");
        cash(x, "BBB 2.5", 6, "2");
        cash(x, "CCC 0.0005", 6, "0");
        cash(x, "DDD 0.00015", 6, "0.0002");
    }

    private static void roundWithoutTheContext() {
        Checks.sentence("8: the context has no part in it");
        TwofoldAmounts x = new TwofoldAmounts(19, 5, 1);
        Asked.put(x, 0, true, "DDD 99999999999999.99999");
        Checks.due("round", x.round(1, 0, 0, false), 0);
        value(x, 1, "100000000000000");
        Checks.due("round", x.round(1, 0, 1, false), 0);
        value(x, 1, "99999999999999.9999");
        Asked.put(x, 0, true, "AAA 99999999999999999990000000");
        ratios(x, 1, 6);
        x.allocate(0, 1, 2);
        Checks.due("more digits than the context has", x.round(3, 1, 0, true), 0);
        value(x, 3, "14285714285714285712857142.86");
    }

    private static void ratioFrom0To1000000() {
        Checks.sentence("9: Ratio i (0 .. 7) becomes w, from 0 to 1000000, and true");
        TwofoldAmounts x = fresh();
        for (int i = 0; i < 8; i++) {
            Checks.due("ratio " + i, x.ratio(i, 1000000), true);
            Checks.due("ratio " + i, x.ratio(i, 0), true);
            Checks.due("ratio " + i, x.ratio(i, 1000001), false);
            Checks.due("ratio " + i, x.ratio(i, -1), false);
        }
        x.set(7, false, 1, 1000001, 0);
        Checks.due("all are 0", x.allocate(7, 0, 7), BAD);
        ratios(x, 1000000, 1);
        Checks.due("allocate", x.allocate(7, 0, 2), 0);
        values(x, 0, "1000000", "1");
        ratios(x, 0, 1);
        Checks.due("allocate", x.allocate(7, 0, 2), 0);
        values(x, 0, "0", "1000001");
    }

    private static void allocateCounts() {
        Checks.sentence("10: BAD when .. n not 1 .. 8 - to, a is one of the registers of the parts");
        for (int to = 0; to < 8; to++) {
            for (int n = 0; n <= 9; n++) {
                for (int a = 0; a < 8; a++) {
                    TwofoldAmounts x = fresh();
                    ratios(x, 1, 1, 1, 1, 1, 1, 1, 1);
                    x.set(a, false, 1, n, 0);
                    boolean bad = n < 1 || n > 8 - to || a >= to && a < to + n;
                    Checks.due("allocate " + a + " " + to + " " + n, x.allocate(a, to, n), bad ? BAD : 0);
                    for (int r = 0; r < 8; r++) {
                        boolean part = !bad && r >= to && r < to + n;
                        String due = r == a ? Integer.toString(n) : part ? "1" : "refused " + NO_AMOUNT;
                        value(x, r, due);
                    }
                }
            }
        }
    }

    private static void allocateWithoutARest() {
        Checks.sentence("10: part i gets at first m * ratio i / R units: none are left");
        TwofoldAmounts x = fresh();
        ratios(x, 1, 2, 3, 4);
        x.set(0, false, 0, 10, 2);
        Checks.due("allocate", x.allocate(0, 1, 4), 0);
        values(x, 1, "0.01", "0.02", "0.03", "0.04");
        x.set(0, true, 0, 10, 0);
        Checks.due("allocate", x.allocate(0, 1, 4), 0);
        values(x, 1, "1", "2", "3", "4");
        Checks.due("to one part", x.allocate(0, 1, 1), 0);
        values(x, 1, "10", "2", "3", "4");
    }

    private static void allocateTheUnitsThatAreLeft() {
        Checks.sentence("10: of the units that are left then, one each goes to the parts with the greatest m * ratio i mod R");
        TwofoldAmounts x = fresh();
        ratios(x, 1, 1, 1, 1, 1, 1, 1);
        x.set(0, false, 1, 13, 0);
        Checks.due("six are left", x.allocate(0, 1, 7), 0);
        values(x, 1, "2", "2", "2", "2", "2", "2", "1");
        x.set(0, false, 1, 8, 0);
        Checks.due("one is left", x.allocate(0, 1, 7), 0);
        values(x, 1, "2", "1", "1", "1", "1", "1", "1");
        // 10 by 3 5 9 of 17: 1 2 5 and remainders 13 16 5: two are left
        ratios(x, 3, 5, 9);
        x.set(0, false, 1, 10, 0);
        Checks.due("allocate", x.allocate(0, 1, 3), 0);
        values(x, 1, "2", "3", "5");
        // 11 by 3 5 9 of 17: 1 3 5 and remainders 16 4 14: two are left
        x.set(0, false, 1, 11, 0);
        Checks.due("allocate", x.allocate(0, 1, 3), 0);
        values(x, 1, "2", "3", "6");
        // 1 by 3 5 9 of 17: remainders 3 5 9: one is left
        x.set(0, false, 1, 1, 0);
        Checks.due("allocate", x.allocate(0, 1, 3), 0);
        values(x, 1, "0", "0", "1");
    }

    private static void allocateByTheFirstRatiosAlone() {
        Checks.sentence("10: Splits a by the ratios 0 .. n - 1");
        TwofoldAmounts x = fresh();
        // 4 by 1 1 5 of 7: 0 0 2 and remainders 4 4 6: two are left
        ratios(x, 1, 1, 5);
        x.set(0, false, 1, 4, 0);
        Checks.due("allocate by three", x.allocate(0, 1, 3), 0);
        values(x, 1, "1", "0", "3");
        // what the third had over before has no part in this
        x.set(0, false, 1, 1, 0);
        Checks.due("allocate by two", x.allocate(0, 1, 2), 0);
        values(x, 1, "1", "0", "3");
        Checks.due("allocate by one", x.allocate(0, 1, 1), 0);
        values(x, 1, "1", "0", "3");
    }

    private static void allocateToEqualRemainders() {
        Checks.sentence("10: of equal ones to those with the lower numbers");
        TwofoldAmounts x = fresh();
        ratios(x, 1, 1);
        x.set(0, false, 0, 1, 2);
        Checks.due("allocate", x.allocate(0, 1, 2), 0);
        values(x, 1, "0.01", "0");
        // 5 by 1 2 1 2 of 6: 0 1 0 1 and remainders 5 4 5 4: three are left
        ratios(x, 1, 2, 1, 2);
        x.set(0, false, 1, 5, 0);
        Checks.due("allocate", x.allocate(0, 1, 4), 0);
        values(x, 1, "1", "2", "1", "1");
        // 4 by 1 2 1 2 of 6: 0 1 0 1 and remainders 4 2 4 2: two are left
        x.set(0, false, 1, 4, 0);
        Checks.due("allocate", x.allocate(0, 1, 4), 0);
        values(x, 1, "1", "1", "1", "1");
        // 2 by 1 2 1 2 of 6: 0 0 0 0 and remainders 2 4 2 4: two are left
        x.set(0, false, 1, 2, 0);
        Checks.due("allocate", x.allocate(0, 1, 4), 0);
        values(x, 1, "0", "1", "0", "1");
    }

    private static void allocateNothingToRatiosOf0() {
        Checks.sentence("10: part i gets at first m * ratio i / R units: a ratio of 0");
        TwofoldAmounts x = fresh();
        ratios(x, 0, 1, 0, 1, 1, 0);
        x.set(0, true, 0, -100, 2);
        Checks.due("allocate", x.allocate(0, 1, 6), 0);
        values(x, 1, "0", "-0.34", "0", "-0.33", "-0.33", "0");
        Checks.due("0 has no sign", x.sign(1), 0);
        x.set(0, true, 0, 2, 2);
        Checks.due("allocate", x.allocate(0, 1, 6), 0);
        values(x, 1, "0", "0.01", "0", "0.01", "0", "0");
        ratios(x, 0, 0, 1000000);
        Checks.due("the third alone", x.allocate(0, 1, 3), 0);
        values(x, 1, "0", "0", "0.02");
    }

    private static void allocateLittle() {
        Checks.sentence("10: m the absolute value of a in units: 0, and fewer than parts");
        TwofoldAmounts x = fresh();
        ratios(x, 1000000, 999999, 1, 0);
        x.set(0, false, 3, 0, 0);
        Checks.due("0", x.allocate(0, 1, 4), 0);
        values(x, 1, "0", "0", "0", "0");
        Checks.due("kind", x.kind(4), 3);
        // 1 unit: remainders 1000000 999999 1 0 of 2000000
        x.set(0, false, 3, 1, 4);
        Checks.due("1", x.allocate(0, 1, 4), 0);
        values(x, 1, "0.0001", "0", "0", "0");
        // 2 units: 1 0 0 0 and remainders 0 1999998 2 0
        x.set(0, false, 3, -2, 4);
        Checks.due("2", x.allocate(0, 1, 4), 0);
        values(x, 1, "-0.0001", "-0.0001", "0", "0");
    }

    private static void allocateTheGreatest() {
        Checks.sentence("10: Splits a: the greatest of each kind, by the greatest ratios");
        TwofoldAmounts x = fresh();
        ratios(x, 1000000, 1000000, 1000000, 1000000, 1000000, 1000000, 1000000);
        Asked.put(x, 0, true, "DDD " + NINES + ".9999");
        Checks.due("wide", x.allocate(0, 1, 7), 0);
        // 10^30 - 1 is 7 times 142857142857142857142857142857 and nothing over
        String part = "14285714285714285714285714.2857";
        values(x, 1, part, part, part, part, part, part, part);
        Asked.put(x, 0, true, "DDD -" + NINES + ".9995");
        Checks.due("wide", x.allocate(0, 1, 7), 0);
        // four units less: three of the parts keep theirs
        String less = "-14285714285714285714285714.2856";
        values(x, 1, "-" + part, "-" + part, "-" + part, less, less, less, less);
        x.set(0, false, 3, 922337203685477580L, 4);
        Checks.due("fast", x.allocate(0, 1, 7), 0);
        // 922337203685477580 is 7 times 131762457669353940 and nothing over
        value(x, 1, "13176245766935.394");
        value(x, 7, "13176245766935.394");
        ratios(x, 1, 1000000, 0, 0, 0, 0, 0);
        x.set(0, false, 3, -922337203685477580L, 4);
        Checks.due("fast", x.allocate(0, 1, 7), 0);
        values(x, 1, "-92233628.1349", "-92233628134919.6231", "0", "0", "0", "0", "0");
    }

    private static void allocateBelowZero() {
        Checks.sentence("10: All parts get a's sign");
        TwofoldAmounts x = fresh();
        ratios(x, 1, 2);
        for (int kind = 0; kind < 2; kind++) {
            x.set(0, kind == 1, 2, -1, 3);
            Checks.due("one unit", x.allocate(0, 1, 2), 0);
            values(x, 1, "0", "-0.001");
            Checks.due("0 has no sign", x.sign(1), 0);
            Checks.due("kind", x.kind(1), 2 + 8 * kind);
            x.set(0, kind == 1, 2, -100, 3);
            Checks.due("a hundred", x.allocate(0, 1, 2), 0);
            values(x, 1, "-0.033", "-0.067");
            x.set(0, kind == 1, 2, 100, 3);
            Checks.due("a hundred", x.allocate(0, 1, 2), 0);
            values(x, 1, "0.033", "0.067");
        }
    }

    private static void allocateMultiplesAlone() {
        Checks.sentence("10: INEXACT when a is no multiple of the unit");
        int[] digits = {2, 0, 3, 4, 2, 1};
        for (int c = 0; c < 6; c++) {
            TwofoldAmounts x = fresh();
            ratios(x, 1);
            x.set(0, false, c, -1, digits[c]);
            Checks.due("one unit", x.allocate(0, 1, 1), 0);
            x.set(0, false, c, -1, digits[c] + 1);
            Checks.due("a tenth of a unit", x.allocate(0, 1, 1), INEXACT);
            x.set(0, true, c, 1000000001, 9);
            Checks.due("a little more than 1", x.allocate(0, 1, 1), INEXACT);
            x.set(0, true, c, 1, 0);
            Asked.put(x, 2, true, "ABCDEF".substring(c, c + 1).repeat(3) + " 0.0000000001");
            x.add(0, 0, 2);
            Checks.due("the least more than 1", x.allocate(0, 1, 1), INEXACT);
        }
    }

    private static void compareBesideEachOther() {
        Checks.sentence("11: -1, 0 or 1: whether a is less than, equal to or greater than b in value");
        TwofoldAmounts x = fresh();
        Asked.put(x, 0, true, "CCC -" + NINES + ".9999");
        Asked.put(x, 1, true, "CCC -" + NINES + ".9998");
        Asked.put(x, 2, true, "CCC -0.0000000001");
        Asked.put(x, 3, true, "CCC -0.00");
        Asked.put(x, 4, true, "CCC 0.0000000001");
        Asked.put(x, 5, true, "CCC " + NINES + ".9998");
        Asked.put(x, 6, true, "CCC " + NINES + ".9999");
        for (int a = 0; a < 7; a++) {
            for (int b = 0; b < 7; b++) {
                Checks.due("compare " + a + " " + b, x.compare(a, b), Integer.compare(a, b));
            }
        }
        x.set(7, true, 2, 0, 9);
        Checks.due("0 and 0", x.compare(3, 7), 0);
        compareByOneDigit();
        TwofoldAmounts y = fresh();
        long[] numbers = {MIN, MIN + 1, -1, 0, 1, MAX - 1, MAX};
        for (int i = 0; i < 7; i++) {
            y.set(i, false, 2, numbers[i], 5);
        }
        for (int a = 0; a < 7; a++) {
            for (int b = 0; b < 7; b++) {
                Checks.due("compare " + numbers[a] + " " + numbers[b], y.compare(a, b), Integer.compare(a, b));
            }
        }
    }

    /** Two amounts that differ in one digit alone, at each place of the whole part. */
    private static void compareByOneDigit() {
        for (int zeros = 0; zeros < 26; zeros++) {
            TwofoldAmounts x = fresh();
            String rest = "00000000000000000000000000".substring(0, zeros);
            Asked.put(x, 0, true, "CCC 1" + rest);
            Asked.put(x, 1, true, "CCC 2" + rest);
            Checks.due("compare 1" + rest + " 2" + rest, x.compare(0, 1), -1);
            Checks.due("compare 2" + rest + " 1" + rest, x.compare(1, 0), 1);
            Checks.due("subtract", x.subtract(2, 0, 1), 0);
            value(x, 2, "-1" + rest);
        }
    }

    private static void signOfTheLeast() {
        Checks.sentence("12: -1, 0 or 1: the sign of a");
        TwofoldAmounts x = fresh();
        String[] numbers = {"0.0000000001", "-0.0000000001", "0", "-0", "0.0000000000", "-" + NINES, NINES};
        int[] due = {1, -1, 0, 0, 0, -1, 1};
        for (int i = 0; i < numbers.length; i++) {
            Asked.put(x, 0, true, "FFF " + numbers[i]);
            Checks.due("sign of " + numbers[i], x.sign(0), due[i]);
        }
        long[] fast = {MIN, -1, 0, 1, MAX};
        for (long n : fast) {
            x.set(0, false, 5, n, 5);
            Checks.due("sign of " + n, x.sign(0), Long.signum(n));
        }
    }

    private static void kindOfAll() {
        Checks.sentence("13: The currency of a, plus 8 if it is wide");
        TwofoldAmounts x = fresh();
        for (int c = 0; c < 6; c++) {
            for (int r = 0; r < 8; r++) {
                x.set(r, false, c, 0, 0);
                Checks.due("fast", x.kind(r), c);
                x.set(r, true, c, 0, 0);
                Checks.due("wide", x.kind(r), 8 + c);
            }
        }
    }

    private static void halves(TwofoldAmounts x, long low, long high) {
        Checks.due("low half", x.digits(0, 0), low);
        Checks.due("high half", x.digits(0, 1), high);
    }

    private static void digitsInHalves() {
        Checks.sentence("14: half = 0 its lowest 18 digits, half = 1 the others (0 without), as a number each");
        TwofoldAmounts x = fresh();
        x.set(0, true, 0, 0, 0);
        halves(x, 0, 0);
        Asked.put(x, 0, true, "AAA 0.0000000001");
        halves(x, 1, 0);
        Asked.put(x, 0, true, "AAA -99999999.9999999999");
        halves(x, 999999999999999999L, 0);
        Asked.put(x, 0, true, "AAA -100000000");
        halves(x, 0, 1);
        Asked.put(x, 0, true, "AAA 100000000.0000000001");
        halves(x, 1, 1);
        Asked.put(x, 0, true, "AAA 12345678901234567890.0987654321");
        halves(x, 345678900987654321L, 123456789012L);
        x = fresh();
        Asked.put(x, 0, true, "AAA -" + NINES + ".9999");
        halves(x, 999999999999000000L, 999999999999999999L);
        Asked.put(x, 0, true, "AAA 10000000000000000000000000");
        halves(x, 0, 100000000000000000L);
        x.set(0, false, 0, MIN, 5);
        halves(x, 203685477580800000L, 922337);
        x.set(0, false, 0, MAX, 5);
        halves(x, 203685477580700000L, 922337);
        x.set(0, false, 0, -1, 5);
        halves(x, 100000, 0);
    }

    private static void discardTwice() {
        Checks.sentence("15: Register r holds nothing from now on: true; false when .. it holds nothing already");
        TwofoldAmounts x = fresh();
        for (int r = 0; r < 8; r++) {
            Checks.due("discard " + r, x.discard(r), false);
            x.set(r, r % 2 == 0, 0, 0, 0);
        }
        for (int r = 0; r < 8; r++) {
            Checks.due("discard " + r, x.discard(r), true);
            Checks.due("discard " + r, x.discard(r), false);
            Checks.due("kind " + r, x.kind(r), NO_AMOUNT);
            Checks.due("the next is held", x.kind((r + 1) % 8) == NO_AMOUNT, r == 7);
        }
    }

    private static void format(TwofoldAmounts x, int style, String want) {
        Checks.due("length of " + want, x.format(0, style), want.length());
        Checks.due("text", Asked.text(x), want);
    }

    private static void formatRoundsHalvesToEven() {
        Checks.sentence("16: rounded by mode 6 to a multiple of its unit");
        TwofoldAmounts x = new TwofoldAmounts(30, 10, 0);
        x.set(0, false, 0, 5, 3);
        format(x, 0, "AAA 0.00");
        x.set(0, false, 0, 501, 5);
        format(x, 0, "AAA 0.01");
        x.set(0, false, 0, 15, 3);
        format(x, 0, "AAA 0.02");
        x.set(0, false, 0, 1499, 5);
        format(x, 0, "AAA 0.01");
        x.set(0, true, 1, 5, 1);
        format(x, 0, "BBB 0");
        x.set(0, true, 1, 500000001, 9);
        format(x, 0, "BBB 1");
        x.set(0, true, 1, -15, 1);
        format(x, 0, "BBB -2");
        x.set(0, true, 3, 99995, 5);
        format(x, 0, "DDD 1.0000");
        x.set(0, true, 4, 3, 2);
        format(x, 0, "EEE 0.03");
        x.set(0, true, 5, 99995, 2);
        format(x, 1, "FFF 1,000.0");
        value(x, 0, "999.95");
    }

    private static void formatOfLessThanNothing() {
        Checks.sentence("16: a minus sign or brackets only if the rounded value is less than 0");
        for (int style = 0; style < 8; style++) {
            TwofoldAmounts x = fresh();
            boolean behind = (style & 2) != 0;
            String[] numbers = {"0.00", "0.00", "0.00", (style & 4) != 0 ? "(0.01)" : "-0.01"};
            long[] given = {0, -1, -5000, -5001};
            for (int i = 0; i < 4; i++) {
                x.set(0, true, 0, given[i], 6);
                format(x, style, behind ? numbers[i] + " AAA" : "AAA " + numbers[i]);
            }
            x.set(0, false, 0, 1, 2);
            format(x, style, behind ? "0.01 AAA" : "AAA 0.01");
        }
    }

    private static void formatOfNothing() {
        Checks.sentence("16: exactly as many digits behind it as the currency has, or no point if that is 0");
        String[] due = {"AAA 0.00", "BBB 0", "CCC 0.000", "DDD 0.0000", "EEE 0.00", "FFF 0.0"};
        String[] one = {"AAA 1.00", "BBB 1", "CCC 1.000", "DDD 1.0000", "EEE 1.00", "FFF 1.0"};
        for (int c = 0; c < 6; c++) {
            TwofoldAmounts x = fresh();
            x.set(0, c % 2 == 0, c, 0, 0);
            format(x, 0, due[c]);
            x.set(0, c % 2 == 0, c, 1, 0);
            format(x, 4, one[c]);
        }
    }

    private static void formatWithoutNeedlessZeros() {
        Checks.sentence("16: the whole part without needless zeros in front (0 is one digit)");
        TwofoldAmounts x = fresh();
        Asked.put(x, 0, true, "AAA 00000000000000000000000000000000000000000.09");
        format(x, 0, "AAA 0.09");
        x.set(0, true, 0, 1009, 2);
        format(x, 0, "AAA 10.09");
        format(x, 1, "AAA 10.09");
        x.set(0, true, 1, 1000000, 0);
        format(x, 3, "1,000,000 BBB");
        format(x, 2, "1000000 BBB");
    }

    private static void formatGroups() {
        Checks.sentence("GROUPED: 1 to 3 digits, and then .. a comma (44) and 3 digits");
        TwofoldAmounts x = fresh();
        long[] numbers = {9, 99, 999, 1000, 9999, 10000, 99999, 100000, 999999, 1000000, -999, -1000};
        String[] due = {
            "9", "99", "999", "1,000", "9,999", "10,000", "99,999", "100,000", "999,999", "1,000,000", "-999", "-1,000"
        };
        for (int i = 0; i < numbers.length; i++) {
            x.set(0, false, 1, numbers[i], 0);
            format(x, 1, "BBB " + due[i]);
        }
        x = fresh();
        x.set(0, true, 5, 99995, 2);
        format(x, 5, "FFF 1,000.0");
        x.set(0, true, 5, -99995, 2);
        format(x, 5, "FFF (1,000.0)");
        format(x, 7, "(1,000.0) FFF");
    }

    private static void formatOfTheGreatest() {
        Checks.sentence("16: The text becomes a written in a style: the longest ones");
        TwofoldAmounts x = fresh();
        Asked.put(x, 0, true, "DDD -" + NINES + ".9999");
        format(x, 0, "DDD -" + NINES + ".9999");
        format(x, 1, "DDD -99,999,999,999,999,999,999,999,999.9999");
        format(x, 7, "(99,999,999,999,999,999,999,999,999.9999) DDD");
        Checks.due("and it can be read", x.parse(1, true, 7), 0);
        Checks.due("the same", x.compare(0, 1), 0);
        TwofoldAmounts y = fresh();
        Asked.put(y, 0, true, "CCC -" + NINES + ".9999");
        format(y, 5, "CCC (100,000,000,000,000,000,000,000,000.000)");
        Checks.due("the rounded one can't be read", y.parse(1, true, 5), RANGE);
        value(y, 0, "-" + NINES + ".9999");
        TwofoldAmounts z = fresh();
        z.set(0, false, 3, MIN, 5);
        format(z, 0, "DDD -92233720368547.7581");
        z.set(0, false, 3, MAX, 5);
        format(z, 3, "92,233,720,368,547.7581 DDD");
        Checks.due("fast can't hold the rounded one", z.parse(1, false, 3), RANGE);
        Checks.due("wide can", z.parse(1, true, 3), 0);
        value(z, 1, "92233720368547.7581");
    }

    private static void typeTheFirstAndTheLast() {
        Checks.sentence("17: Appends a character (32 .. 126) to the text and answers its length");
        for (int c = 20; c < 140; c++) {
            TwofoldAmounts x = fresh();
            boolean bad = c < 32 || c > 126;
            Checks.due("type " + c, x.type(c), bad ? BAD : 1);
            Checks.due("letter", x.letter(0), bad ? BAD : c);
            Checks.due("letter", x.letter(1), BAD);
        }
        TwofoldAmounts x = fresh();
        x.set(0, false, 1, 5, 0);
        x.format(0, 0);
        Checks.due("behind a written one", x.type('0'), 6);
        Checks.due("text", Asked.text(x), "BBB 50");
        for (int i = 7; i <= 48; i++) {
            Checks.due("type " + i, x.type('x'), i);
        }
        Checks.due("BAD when the text has 48", x.type('x'), BAD);
        x.wipe();
        Checks.due("after a wipe", x.type('x'), 1);
    }

    private static void wipeTwice() {
        Checks.sentence("18: The text becomes empty");
        TwofoldAmounts x = fresh();
        x.wipe();
        x.wipe();
        Checks.due("letter 0", x.letter(0), BAD);
        for (int i = 0; i < 48; i++) {
            x.type('0');
        }
        x.wipe();
        for (int i = 0; i < 48; i++) {
            Checks.due("letter " + i, x.letter(i), BAD);
        }
        Checks.due("parse", x.parse(0, true, 2), -100);
    }

    private static void letterOfAnEmptyText() {
        Checks.sentence("19: Character i of the text, from 0 on; BAD when there is none");
        TwofoldAmounts x = fresh();
        int[] places = {LOW, -1, 0, 1, 47, 48, HIGH};
        for (int i : places) {
            Checks.due("letter " + i, x.letter(i), BAD);
        }
        x.type('a');
        x.type('b');
        Checks.due("letter -1", x.letter(-1), BAD);
        Checks.due("letter 0", x.letter(0), 'a');
        Checks.due("letter 1", x.letter(1), 'b');
        Checks.due("letter 2", x.letter(2), BAD);
    }

    private static void stops(int style, String text, int at) {
        TwofoldAmounts x = fresh();
        Asked.type(x, text);
        Checks.due("style " + style + " '" + text + "'", x.parse(0, true, style), -100 - at);
        Checks.due("nothing is held", x.kind(0), NO_AMOUNT);
    }

    private static void parseOfAnEmptyText() {
        Checks.sentence("20: i is .. 0 of an empty one");
        for (int style = 0; style < 8; style++) {
            stops(style, "", 0);
            TwofoldAmounts x = fresh();
            x.type('A');
            x.wipe();
            Checks.due("after a wipe", x.parse(0, false, style), -100);
        }
    }

    private static final String[] WHOLE = {
        "AAA -12.50", "AAA -1,234.50", "-12.50 AAA", "-1,234.50 AAA",
        "AAA (12.50)", "AAA (1,234.50)", "(12.50) AAA", "(1,234.50) AAA"
    };

    private static void parseOfATextThatEndsTooEarly() {
        Checks.sentence("20: i is the text's length when the text ends too early");
        for (int style = 0; style < 8; style++) {
            String text = WHOLE[style];
            for (int length = 0; length < text.length(); length++) {
                String start = text.substring(0, length);
                boolean complete = start.matches("AAA -[0-9]+(\\.[0-9]+)?") && style == 0
                    || start.matches("AAA -(1|1,234(\\.[0-9]+)?)") && style == 1;
                if (!complete) {
                    stops(style, start, length);
                }
            }
        }
    }

    private static void parseOfATextThatGoesOn() {
        Checks.sentence("20: -100 - i when the characters 0 .. i - 1 are the beginning .. but not those up to and with character i");
        char[] more = {' ', 'A', '(', ')', '-', ',', '.', '/', ':', '~'};
        for (int style = 0; style < 8; style++) {
            for (char c : more) {
                stops(style, WHOLE[style] + c, WHOLE[style].length());
            }
        }
    }

    private static void parseOfFullTexts() {
        Checks.sentence("20: the beginning of some text of that style, of any length");
        String zeros = "000000000000000000000000000000000000000000000000";
        stops(2, zeros, 48);
        stops(6, zeros, 48);
        stops(2, "-" + zeros.substring(1), 48);
        stops(6, "(" + zeros.substring(1), 48);
        stops(0, "AAA " + zeros.substring(5) + ".", 48);
        stops(4, "AAA (" + zeros.substring(5), 48);
        stops(2, zeros.substring(1) + " ", 48);
        stops(2, zeros.substring(2) + " A", 48);
        stops(2, zeros.substring(3) + " AA", 48);
        stops(6, "(" + zeros.substring(2) + ")", 48);
        stops(3, "000,000,000,000,000,000,000,000,000,000,000,000,".substring(0, 48), 48);
        stops(3, zeros, 3);
        TwofoldAmounts x = fresh();
        Asked.type(x, zeros.substring(4) + " BBB");
        Checks.due("48 that are one", x.parse(0, true, 2), 0);
        Asked.type(x, "BBB " + zeros.substring(4));
        Checks.due("48 that are one", x.parse(0, false, 0), 0);
        Checks.due("kind", x.kind(0), 1);
    }

    private static void parseWrongAtEachPlace() {
        Checks.sentence("20: not those up to and with character i: a wrong character at each place");
        for (int style = 0; style < 8; style++) {
            String text = WHOLE[style];
            for (int at = 0; at < text.length(); at++) {
                stops(style, text.substring(0, at) + "~" + text.substring(at + 1), at);
                stops(style, text.substring(0, at) + "G" + text.substring(at + 1), at);
            }
        }
        stops(0, "ABB 1", 1);
        stops(0, "AAB 1", 2);
        stops(2, "1 ABB", 3);
        stops(2, "1 AAB", 4);
        stops(0, "AAA1", 3);
        stops(2, "1AAA", 1);
    }

    private static void parseLeavesTheText() {
        Checks.sentence("20: the text stays");
        for (int style = 0; style < 8; style++) {
            TwofoldAmounts x = fresh();
            Asked.type(x, WHOLE[style]);
            Checks.due("fast", x.parse(0, false, style), 0);
            Checks.due("text", Asked.text(x), WHOLE[style]);
            Checks.due("and once more", x.parse(1, true, style), 0);
            Checks.due("and a refused one", x.parse(1, true, style ^ 2), -100);
            Checks.due("text", Asked.text(x), WHOLE[style]);
            value(x, 1, (style & 1) != 0 ? "-1234.5" : "-12.5");
        }
    }

    private static void parseRange() {
        Checks.sentence("20: RANGE");
        TwofoldAmounts x = fresh();
        x.set(0, false, 5, 7, 0);
        Asked.type(x, "AAA 0.0000000001");
        Checks.due("fast", x.parse(0, false, 0), RANGE);
        Asked.type(x, "AAA -100000000000000000000000000");
        Checks.due("wide", x.parse(0, true, 0), RANGE);
        Checks.due("text", Asked.text(x), "AAA -100000000000000000000000000");
        value(x, 0, "7");
        Checks.due("kind", x.kind(0), 5);
    }
}
