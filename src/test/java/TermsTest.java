/** The boundary cases that the document names under "Terms", a method for each sentence. */
public final class TermsTest {
    private static final int RANGE = TwofoldAmounts.RANGE;
    private static final int BAD = TwofoldAmounts.BAD;
    private static final int INEXACT = TwofoldAmounts.INEXACT;
    private static final long MAX = Long.MAX_VALUE;
    private static final long MIN = Long.MIN_VALUE;
    private static final String[] CODES = {"AAA", "BBB", "CCC", "DDD", "EEE", "FFF"};
    private static final String GREATEST = "92233720368547.75807";
    private static final String LEAST = "-92233720368547.75808";
    private static final String NINES = "99999999999999999999999999";

    public static void main(String[] args) {
        objectIsUsedFor512Calls();
        unitsAndCashUnits();
        codesOfCurrencies();
        registersHoldNothingAtFirst();
        fastBySet();
        fastBySums();
        fastByProducts();
        fastProductsDoNotWrap();
        fastByQuotients();
        fastByNegateAndRound();
        fastByParse();
        fastDigitsBehindThePoint();
        wideBySums();
        wideByProductsAndQuotients();
        wideBySetAndParse();
        wideByNegateAndRound();
        wideRoundedToTheBound();
        digitsOfTheWholePart();
        scaleBelowZero();
        roundedOnceFromItsExactValue();
        contextHasNoPartElsewhere();
        multiplesStay();
        halvesOfTheContext();
        justBesideAHalf();
        farBehindTheHalf();
        numbers();
        textOf48();
        wholeParts();
        groupedWholeParts();
        digitsBehindThePoint();
        signsAndBrackets();
        targetMayBeOneOfTheOthers();
        heldAmountIsReplaced();
        Checks.done();
    }

    private static TwofoldAmounts fresh() {
        return new TwofoldAmounts(30, 10, 6);
    }

    private static void value(TwofoldAmounts x, int r, String want) {
        Checks.due("register " + r, Asked.value(x, r), want);
    }

    private static void fast(TwofoldAmounts x, int r, String number) {
        Asked.put(x, r, false, "AAA " + number);
    }

    private static void wide(TwofoldAmounts x, int r, String number) {
        Asked.put(x, r, true, "AAA " + number);
    }

    private static void objectIsUsedFor512Calls() {
        Checks.sentence("An object is used for at most 512 calls after it has been made");
        TwofoldAmounts x = fresh();
        x.set(0, true, 0, 1, 0);
        for (int i = 0; i < 255; i++) {
            x.add(0, 0, 0);
            x.divide(0, 0, 2, 0);
        }
        Checks.due("call 512", x.digits(0, 0), 10000000000L);
        TwofoldAmounts typed = fresh();
        for (int i = 1; i < 512; i++) {
            int due = i <= 48 ? i : BAD;
            Checks.due("call " + i, typed.type(48 + i % 10), due);
        }
        Checks.due("call 512", typed.letter(47), 56);
    }

    private static void unitsAndCashUnits() {
        Checks.sentence("CURRENCIES 0 .. 5 have 2, 0, 3, 4, 2, 1 DIGITS .. CASH UNIT is 1, 1, 1, 1, 5, 2 units");
        int[] digits = {2, 0, 3, 4, 2, 1};
        int[] cash = {1, 1, 1, 1, 5, 2};
        for (int c = 0; c < 6; c++) {
            TwofoldAmounts x = fresh();
            for (int units = 1; units <= 10; units++) {
                x.set(0, units % 2 == 0, c, units, digits[c]);
                Checks.due("units of " + CODES[c], x.round(1, 0, 7, false), 0);
                int due = units % cash[c] == 0 ? 0 : INEXACT;
                Checks.due(units + " units of " + CODES[c] + " in cash", x.round(1, 0, 7, true), due);
            }
            x.set(0, true, c, 1, digits[c] + 1);
            Checks.due("a tenth of a unit of " + CODES[c], x.round(1, 0, 7, false), INEXACT);
            Checks.due("up to a unit", x.round(1, 0, 0, false), 0);
            x.set(2, true, c, 1, digits[c]);
            Checks.due("a unit of " + CODES[c], x.compare(1, 2), 0);
            Checks.due("up to a cash unit", x.round(1, 0, 0, true), 0);
            x.set(2, true, c, cash[c], digits[c]);
            Checks.due("a cash unit of " + CODES[c], x.compare(1, 2), 0);
        }
    }

    private static void codesOfCurrencies() {
        Checks.sentence("The CODE of currency c is three times the letter 65 + c (AAA, BBB, .. FFF)");
        for (int c = 0; c < 6; c++) {
            TwofoldAmounts x = fresh();
            Asked.type(x, CODES[c] + " 1");
            Checks.due("parse " + CODES[c], x.parse(0, false, 0), 0);
            Checks.due("kind", x.kind(0), c);
            x.format(0, 4);
            for (int i = 0; i < 3; i++) {
                Checks.due("letter " + i, x.letter(i), 65 + c);
            }
        }
        String[] none = {"@@@ 1", "GGG 1", "aaa 1", "ggg 1"};
        for (String text : none) {
            TwofoldAmounts x = fresh();
            Asked.type(x, text);
            Checks.due("parse " + text, x.parse(0, false, 0), -100);
        }
    }

    private static void registersHoldNothingAtFirst() {
        Checks.sentence("REGISTERS 0 .. 7 hold nothing (at first) or an AMOUNT");
        TwofoldAmounts x = fresh();
        for (int r = 0; r < 8; r++) {
            Checks.due("kind " + r, x.kind(r), TwofoldAmounts.NO_AMOUNT);
            Checks.due("discard " + r, x.discard(r), false);
        }
        for (int r = 0; r < 8; r++) {
            Checks.due("set " + r, x.set(r, false, 0, r, 0), 0);
        }
        for (int r = 0; r < 8; r++) {
            value(x, r, Integer.toString(r));
        }
    }

    private static void fastBySet() {
        Checks.sentence("FAST: the value times 10^5 is a whole number from -2^63 to 2^63 - 1");
        TwofoldAmounts x = fresh();
        Checks.due("2^63 - 1", x.set(0, false, 0, MAX, 5), 0);
        value(x, 0, GREATEST);
        Checks.due("-2^63", x.set(0, false, 0, MIN, 5), 0);
        value(x, 0, LEAST);
        Checks.due("2^63 + 2", x.set(0, false, 0, 922337203685477581L, 4), RANGE);
        Checks.due("-2^63 - 2", x.set(0, false, 0, -922337203685477581L, 4), RANGE);
        value(x, 0, LEAST);
        Checks.due("2^63 - 8", x.set(0, false, 0, 922337203685477580L, 4), 0);
        Checks.due("-2^63 + 8", x.set(0, false, 0, -922337203685477580L, 4), 0);
        Checks.due("92233720368547", x.set(0, false, 0, 92233720368547L, 0), 0);
        Checks.due("92233720368548", x.set(0, false, 0, 92233720368548L, 0), RANGE);
        Checks.due("-92233720368547", x.set(0, false, 0, -92233720368547L, 0), 0);
        Checks.due("-92233720368548", x.set(0, false, 0, -92233720368548L, 0), RANGE);
        for (int k = 0; k < 5; k++) {
            Checks.due("greatest, k " + k, x.set(0, false, 0, MAX, k), RANGE);
            Checks.due("least, k " + k, x.set(0, false, 0, MIN, k), RANGE);
        }
    }

    private static void fastBySums() {
        Checks.sentence("FAST: a result that is too great is refused with RANGE: add and subtract");
        TwofoldAmounts x = fresh();
        x.set(0, false, 0, MAX, 5);
        x.set(1, false, 0, MIN, 5);
        x.set(2, false, 0, 1, 5);
        x.set(3, false, 0, -1, 5);
        x.set(4, false, 0, 0, 0);
        Checks.due("greatest + 0", x.add(5, 0, 4), 0);
        value(x, 5, GREATEST);
        Checks.due("greatest + 1", x.add(5, 0, 2), RANGE);
        Checks.due("1 + greatest", x.add(5, 2, 0), RANGE);
        Checks.due("greatest - -1", x.subtract(5, 0, 3), RANGE);
        Checks.due("greatest - 1", x.subtract(5, 0, 2), 0);
        value(x, 5, "92233720368547.75806");
        Checks.due("and 1 again", x.add(5, 5, 2), 0);
        value(x, 5, GREATEST);
        Checks.due("least + 0", x.add(6, 1, 4), 0);
        value(x, 6, LEAST);
        Checks.due("least + -1", x.add(6, 1, 3), RANGE);
        Checks.due("least - 1", x.subtract(6, 1, 2), RANGE);
        Checks.due("least - -1", x.subtract(6, 1, 3), 0);
        value(x, 6, "-92233720368547.75807");
        Checks.due("least + least", x.add(6, 1, 1), RANGE);
        Checks.due("least - least", x.subtract(6, 1, 1), 0);
        value(x, 6, "0");
        Checks.due("0 - least", x.subtract(6, 4, 1), RANGE);
        Checks.due("-1 - least", x.subtract(6, 3, 1), 0);
        value(x, 6, GREATEST);
        Checks.due("greatest + least", x.add(6, 0, 1), 0);
        value(x, 6, "-0.00001");
        Checks.due("greatest - least", x.subtract(6, 0, 1), RANGE);
        Checks.due("least - greatest", x.subtract(6, 1, 0), RANGE);
        Checks.due("-1 - greatest", x.subtract(6, 3, 0), 0);
        value(x, 6, LEAST);
    }

    private static void fastByProducts() {
        Checks.sentence("FAST: a result that is too great is refused with RANGE: multiply");
        TwofoldAmounts x = fresh();
        x.set(0, false, 0, 1, 5);
        Checks.due("1 times 2^63 - 1", x.multiply(1, 0, MAX, 0), 0);
        value(x, 1, GREATEST);
        Checks.due("1 times -2^63", x.multiply(2, 0, MIN, 0), 0);
        value(x, 2, LEAST);
        x.set(0, false, 0, -1, 5);
        Checks.due("-1 times 2^63 - 1", x.multiply(3, 0, MAX, 0), 0);
        value(x, 3, "-92233720368547.75807");
        Checks.due("-1 times -2^63", x.multiply(3, 0, MIN, 0), RANGE);
        Checks.due("least times -1", x.multiply(3, 2, -1, 0), RANGE);
        Checks.due("least times 1", x.multiply(3, 2, 1000, 3), 0);
        value(x, 3, LEAST);
        x.set(0, false, 0, 1L << 62, 5);
        Checks.due("2^62 times 2", x.multiply(3, 0, 2, 0), RANGE);
        Checks.due("2^62 times -2", x.multiply(3, 0, -2, 0), 0);
        value(x, 3, LEAST);
        Checks.due("greatest times greatest", x.multiply(3, 1, MAX, 9), RANGE);
        Checks.due("least times least", x.multiply(3, 2, MIN, 9), RANGE);
        Checks.due("least times 0", x.multiply(3, 2, 0, 0), 0);
        value(x, 3, "0");
        Checks.due("0 times least", x.multiply(3, 3, MIN, 9), 0);
        value(x, 3, "0");
    }

    /** What would wrap around in a long to a small, or to the same, number is too great as well. */
    private static void fastProductsDoNotWrap() {
        TwofoldAmounts x = fresh();
        x.set(0, false, 0, 1L << 32, 5);
        Checks.due("2^64", x.multiply(1, 0, 1L << 32, 0), RANGE);
        Checks.due("-2^64", x.multiply(1, 0, -(1L << 32), 0), RANGE);
        x.set(0, false, 0, 6148914691236517206L, 5);
        Checks.due("2^64 + 2", x.multiply(1, 0, 3, 0), RANGE);
        x.set(0, false, 0, 10, 0);
        Checks.due("10^6 * 10^18", x.multiply(1, 0, 1000000000000000000L, 0), RANGE);
        x.set(0, false, 0, 1L << 40, 5);
        Checks.due("2^40 * 2^60", x.multiply(1, 0, 1L << 60, 0), RANGE);
        Checks.due("nothing was kept", x.kind(1), TwofoldAmounts.NO_AMOUNT);
        Checks.due("2^64 by set", x.set(1, false, 0, 184467440737095516L, 0), RANGE);
        Asked.type(x, "AAA 184467440737095.51617");
        Checks.due("2^64 + 1 by parse", x.parse(1, false, 0), RANGE);
        Asked.type(x, "AAA 3402823669209384634633746074317682.11457");
        Checks.due("2^128 + 1 by parse", x.parse(1, false, 0), RANGE);
    }

    private static void fastByQuotients() {
        Checks.sentence("FAST: a result that is too great is refused with RANGE: divide");
        TwofoldAmounts x = fresh();
        x.set(0, false, 0, MAX, 5);
        x.set(1, false, 0, MIN, 5);
        Checks.due("least by -1", x.divide(2, 1, -1, 0), RANGE);
        Checks.due("least by 1", x.divide(2, 1, 1, 0), 0);
        value(x, 2, LEAST);
        Checks.due("greatest by -1", x.divide(2, 0, -1, 0), 0);
        value(x, 2, "-92233720368547.75807");
        Checks.due("greatest by a tenth", x.divide(2, 0, 1, 1), RANGE);
        Checks.due("greatest by 0.999999999", x.divide(2, 0, 999999999, 9), RANGE);
        Checks.due("least by 2", x.divide(2, 1, 2, 0), 0);
        value(x, 2, "-46116860184273.87904");
        Checks.due("and by -0.5", x.divide(3, 2, -5, 1), RANGE);
        Checks.due("and by 0.5", x.divide(3, 2, 5, 1), 0);
        value(x, 3, LEAST);
        Checks.due("least by itself", x.divide(3, 1, MIN, 5), 0);
        value(x, 3, "1");
        Checks.due("greatest by itself", x.divide(3, 0, MAX, 5), 0);
        value(x, 3, "1");
        Checks.due("least by the least long", x.divide(3, 1, MIN, 0), 0);
        value(x, 3, "0.00001");
        x.set(4, false, 0, 922337203685477580L, 5);
        Checks.due("by a tenth", x.divide(3, 4, 1, 1), 0);
        value(x, 3, "92233720368547.758");
        x.set(4, false, 0, 922337203685477581L, 5);
        Checks.due("by a tenth", x.divide(3, 4, 1, 1), RANGE);
        x.set(4, false, 0, 0, 0);
        Checks.due("0 by something", x.divide(3, 4, -1, 9), 0);
        value(x, 3, "0");
    }

    private static void fastByNegateAndRound() {
        Checks.sentence("FAST: a result that is too great is refused with RANGE: negate and round");
        TwofoldAmounts x = fresh();
        x.set(0, false, 1, MAX, 5);
        x.set(1, false, 1, MIN, 5);
        Checks.due("negate the least", x.negate(2, 1), RANGE);
        Checks.due("negate the greatest", x.negate(2, 0), 0);
        value(x, 2, "-92233720368547.75807");
        Checks.due("and back", x.negate(2, 2), 0);
        value(x, 2, GREATEST);
        int[] beyond = {0, 2, 4, 5, 6};
        for (int mode : beyond) {
            Checks.due("greatest by mode " + mode, x.round(2, 0, mode, false), RANGE);
        }
        int[] below = {0, 3, 4, 5, 6};
        for (int mode : below) {
            Checks.due("least by mode " + mode, x.round(2, 1, mode, true), RANGE);
        }
        Checks.due("greatest down", x.round(2, 0, 3, false), 0);
        value(x, 2, "92233720368547");
        Checks.due("greatest stays", x.round(2, 2, 0, false), 0);
        Checks.due("least up", x.round(2, 1, 2, false), 0);
        value(x, 2, "-92233720368547");
        x.set(3, false, 4, 9223372036854775L, 2);
        Checks.due("in cash", x.round(3, 3, 7, true), 0);
        x.set(3, false, 4, 9223372036854775001L, 5);
        Checks.due("the next cash unit is too great", x.round(3, 3, 0, true), RANGE);
        Checks.due("the next unit is too great", x.round(3, 3, 0, false), RANGE);
    }

    private static void fastByParse() {
        Checks.sentence("FAST: a result that is too great is refused with RANGE: parse");
        String[] taken = {GREATEST, LEAST, "92233720368547.7580700000", "00000000000000000000092233720368547.75807"};
        for (String number : taken) {
            TwofoldAmounts x = fresh();
            Asked.type(x, "AAA " + number);
            Checks.due("parse " + number, x.parse(0, false, 0), 0);
        }
        String[] refused = {
            "92233720368547.75808", "-92233720368547.75809", "92233720368548", "92233720368547.7580700001",
            "-92233720368547.7580800001", "99999999999999.99999", "100000000000000", "-1000000000000000000000"
        };
        for (String number : refused) {
            TwofoldAmounts x = fresh();
            Asked.type(x, "AAA " + number);
            Checks.due("parse " + number, x.parse(0, false, 0), RANGE);
        }
    }

    private static void fastDigitsBehindThePoint() {
        Checks.sentence("FAST: a result that has too many digits behind the point is refused with RANGE");
        TwofoldAmounts x = fresh();
        Checks.due("five", x.set(0, false, 3, 1, 5), 0);
        for (int k = 6; k < 10; k++) {
            Checks.due(k + " digits", x.set(1, false, 3, -1, k), RANGE);
            Checks.due(k + " digits, least", x.set(1, false, 3, MIN, k), RANGE);
        }
        Checks.due("needless zeros", x.set(1, false, 3, 10000, 9), 0);
        value(x, 1, "0.00001");
        Checks.due("one zero too few", x.set(1, false, 3, 1000, 9), RANGE);
        Checks.due("times a tenth", x.multiply(1, 0, 1, 1), RANGE);
        Checks.due("times ten tenths", x.multiply(1, 0, 10, 1), 0);
        Checks.due("times a half", x.multiply(1, 0, 5, 1), RANGE);
        Checks.due("by 2", x.divide(1, 0, 2, 0), RANGE);
        Checks.due("by 3", x.divide(1, 0, 3, 0), RANGE);
        Checks.due("by the greatest", x.divide(1, 0, MAX, 0), RANGE);
        x.set(0, false, 3, 2, 5);
        Checks.due("2 times a half", x.multiply(1, 0, -5, 1), 0);
        value(x, 1, "-0.00001");
        Checks.due("2 by 2", x.divide(1, 0, 2, 0), 0);
        value(x, 1, "0.00001");
        x.set(0, false, 3, 1, 0);
        Checks.due("1 by 3", x.divide(1, 0, 3, 0), RANGE);
        Checks.due("1 by 2^5", x.divide(1, 0, 32, 0), 0);
        value(x, 1, "0.03125");
        Checks.due("1 by 2^6", x.divide(1, 0, 64, 0), RANGE);
        Checks.due("1 by 10^5", x.divide(1, 0, -100000, 0), 0);
        value(x, 1, "-0.00001");
        for (long ten = 1000000; ten > 0 && ten <= 1000000000000000000L; ten *= 10) {
            Checks.due("1 by " + ten, x.divide(1, 0, ten, 0), RANGE);
        }
        x.set(0, false, 3, 1, 5);
        for (long ten = 10; ten > 0 && ten <= 100000000000000000L; ten *= 10) {
            Checks.due("0.00001 by " + ten, x.divide(1, 0, ten, 0), RANGE);
        }
        value(x, 1, "-0.00001");
    }

    private static void wideBySums() {
        Checks.sentence("WIDE: the absolute value is less than 10^26: add and subtract");
        TwofoldAmounts x = fresh();
        wide(x, 0, NINES);
        wide(x, 1, "-" + NINES);
        x.set(2, true, 0, 1, 0);
        x.set(3, true, 0, 9999, 4);
        Checks.due("10^26", x.add(4, 0, 2), RANGE);
        Checks.due("-10^26", x.subtract(4, 1, 2), RANGE);
        Checks.due("just less", x.add(4, 3, 0), 0);
        value(x, 4, NINES + ".9999");
        Checks.due("just more than -10^26", x.subtract(4, 1, 3), 0);
        value(x, 4, "-" + NINES + ".9999");
        Checks.due("twice", x.add(4, 0, 0), RANGE);
        Checks.due("twice", x.subtract(4, 1, 0), RANGE);
        Checks.due("both ends", x.add(4, 0, 1), 0);
        value(x, 4, "0");
        wide(x, 5, "50000000000000000000000000");
        wide(x, 6, "49999999999999999999999999.9999");
        Checks.due("halves of 10^26", x.add(4, 5, 5), RANGE);
        Checks.due("a little less", x.add(4, 5, 6), 0);
        value(x, 4, NINES + ".9999");
    }

    private static void wideByProductsAndQuotients() {
        Checks.sentence("WIDE: the absolute value is less than 10^26: multiply and divide");
        TwofoldAmounts x = fresh();
        wide(x, 0, "10000000000000000000000000");
        Checks.due("times 10", x.multiply(1, 0, 10, 0), RANGE);
        Checks.due("times -10", x.multiply(1, 0, -10, 0), RANGE);
        Checks.due("times 9.999999999", x.multiply(1, 0, 9999999999L, 9), 0);
        value(x, 1, "99999999990000000000000000");
        Checks.due("by a tenth", x.divide(1, 0, 1, 1), RANGE);
        Checks.due("by minus a tenth", x.divide(1, 0, -1, 1), RANGE);
        Checks.due("by 0.100000001", x.divide(1, 0, 100000001, 9), 0);
        value(x, 1, "99999999000000009999999900");
        x.set(0, true, 0, 100000000000000000L, 0);
        Checks.due("10^17 by 10^-9", x.divide(1, 0, 1, 9), RANGE);
        Checks.due("10^17 by 2 * 10^-9", x.divide(1, 0, -2, 9), 0);
        value(x, 1, "-50000000000000000000000000");
        Checks.due("times -2", x.multiply(1, 1, -2, 0), RANGE);
        wide(x, 0, NINES + ".9999");
        Checks.due("the greatest product", x.multiply(1, 0, MIN, 0), RANGE);
        Checks.due("the greatest quotient", x.divide(1, 0, -1, 9), RANGE);
        Checks.due("by 1", x.divide(1, 0, -1000000000, 9), 0);
        value(x, 1, "-" + NINES + ".9999");
    }

    private static void wideBySetAndParse() {
        Checks.sentence("WIDE: the absolute value is less than 10^26: set and parse");
        TwofoldAmounts x = new TwofoldAmounts(19, 5, 0);
        for (int k = 0; k < 10; k++) {
            Checks.due("greatest, k " + k, x.set(0, true, 0, MAX, k), 0);
            Checks.due("least, k " + k, x.set(0, true, 0, MIN, k), 0);
        }
        String[] taken = {NINES, "-" + NINES, "0000000000000000" + NINES, NINES + ".9999", NINES + ".99994"};
        String[] refused = {
            "100000000000000000000000000", "-100000000000000000000000000", NINES + ".99996", "-" + NINES + ".9999999999",
            NINES + NINES.substring(0, 18), "1" + NINES.substring(1) + "000000000000000000"
        };
        for (String number : taken) {
            TwofoldAmounts y = fresh();
            Asked.type(y, "AAA " + number);
            Checks.due("parse " + number, y.parse(0, true, 0), 0);
        }
        for (String number : refused) {
            TwofoldAmounts y = fresh();
            Asked.type(y, "AAA " + number);
            Checks.due("parse " + number, y.parse(0, true, 0), RANGE);
        }
    }

    private static void wideByNegateAndRound() {
        Checks.sentence("WIDE: the absolute value is less than 10^26: negate and round");
        TwofoldAmounts x = fresh();
        wide(x, 0, NINES + ".9999");
        Checks.due("negate", x.negate(1, 0), 0);
        value(x, 1, "-" + NINES + ".9999");
        int[] beyond = {0, 2, 4, 5, 6};
        for (int mode : beyond) {
            Checks.due("up by mode " + mode, x.round(2, 0, mode, false), RANGE);
        }
        int[] below = {0, 3, 4, 5, 6};
        for (int mode : below) {
            Checks.due("down by mode " + mode, x.round(2, 1, mode, true), RANGE);
        }
        Checks.due("towards 0", x.round(2, 0, 1, false), 0);
        value(x, 2, NINES + ".99");
        Checks.due("stays", x.round(2, 2, 0, false), 0);
        value(x, 2, NINES + ".99");
    }

    private static void wideRoundedToTheBound() {
        Checks.sentence("WIDE: refused with RANGE when the rounded value is not less than 10^26 in absolute value");
        String nineteen = "99999999999999999990000000";
        for (int mode = 0; mode < 7; mode++) {
            for (int sign = -1; sign <= 1; sign += 2) {
                TwofoldAmounts x = new TwofoldAmounts(19, 5, mode);
                wide(x, 0, nineteen);
                x.multiply(0, 0, sign, 0);
                long[] more = {1, 4999999, 5000000, 5000001, 9999999};
                boolean outwards = mode == 0 || mode == 2 && sign > 0 || mode == 3 && sign < 0;
                boolean nearest = mode >= 4;
                boolean halfOutwards = mode == 4 || mode == 6;
                boolean[] beyond = {
                    outwards, outwards, outwards || halfOutwards, outwards || nearest, outwards || nearest
                };
                for (int i = 0; i < more.length; i++) {
                    x.set(1, true, 0, sign * more[i], 0);
                    String call = "mode " + mode + ", " + sign * more[i] + " more";
                    Checks.due(call, x.add(2, 0, 1), beyond[i] ? RANGE : 0);
                }
                x.set(1, true, 0, sign * 10000000L, 0);
                Checks.due("mode " + mode + ", 10^26", x.add(2, 0, 1), RANGE);
            }
        }
    }

    private static void context(int precision, int scale, int mode, String number, String due) {
        TwofoldAmounts x = new TwofoldAmounts(precision, scale, mode);
        wide(x, 0, number);
        Checks.due("P " + precision + " S " + scale + " M " + mode + " of " + number, Asked.value(x, 0), due);
        int mirrored = mode == 2 ? 3 : mode == 3 ? 2 : mode;
        TwofoldAmounts y = new TwofoldAmounts(precision, scale, mirrored);
        wide(y, 1, "-" + number);
        Checks.due("P " + precision + " S " + scale + " M " + mirrored + " of -" + number, Asked.value(y, 1), "-" + due);
    }

    private static void digitsOfTheWholePart() {
        Checks.sentence("w the number of digits of the whole part of |x| (0 if |x| < 1), and s the lesser of S and P - w");
        context(19, 10, 1, "0.9999999999", "0.9999999999");
        context(19, 10, 1, "1.9999999999", "1.9999999999");
        context(19, 10, 1, "999999999.1234567899", "999999999.1234567899");
        context(19, 10, 1, "1000000000.1234567899", "1000000000.123456789");
        context(20, 10, 1, "9999999999.1234567899", "9999999999.1234567899");
        context(20, 10, 1, "10000000000.1234567899", "10000000000.123456789");
        context(19, 5, 1, "99999999999999.999999", "99999999999999.99999");
        context(19, 5, 1, "100000000000000.99999", "100000000000000.9999");
        context(19, 10, 1, "999999999999999999.99", "999999999999999999.9");
        context(19, 10, 1, "1000000000000000000.99", "1000000000000000000");
        context(30, 10, 1, "99999999999999999999.1234567899", "99999999999999999999.1234567899");
        context(30, 10, 1, "100000000000000000000.1234567899", "100000000000000000000.123456789");
        context(30, 5, 1, "9999999999999999999999999.123459", "9999999999999999999999999.12345");
        context(30, 5, 1, "10000000000000000000000000.12345", "10000000000000000000000000.1234");
        context(26, 10, 0, "10000000000000000000000000.1", "10000000000000000000000001");
        context(26, 10, 0, "1000000000000000000000000.01", "1000000000000000000000000.1");
    }

    private static void scaleBelowZero() {
        Checks.sentence("x is rounded by mode M to a multiple of 10^-s (s may be less than 0)");
        context(19, 10, 1, "12345678901234567899", "12345678901234567890");
        context(19, 10, 0, "12345678901234567891", "12345678901234567900");
        context(19, 10, 0, "12345678901234567890.0000000001", "12345678901234567900");
        context(19, 10, 0, "12345678901234567890", "12345678901234567890");
        context(19, 10, 2, "12345678901234567891", "12345678901234567900");
        context(19, 10, 3, "12345678901234567899", "12345678901234567890");
        context(19, 10, 4, "12345678901234567885", "12345678901234567890");
        context(19, 10, 4, "12345678901234567884.9999999999", "12345678901234567880");
        context(19, 10, 5, "12345678901234567885", "12345678901234567880");
        context(19, 10, 5, "12345678901234567885.0000000001", "12345678901234567890");
        context(19, 10, 6, "12345678901234567885", "12345678901234567880");
        context(19, 10, 6, "12345678901234567895", "12345678901234567900");
        context(19, 10, 0, "99999999999999999991", "100000000000000000000");
        context(19, 5, 1, "12345678901234567899999999", "12345678901234567890000000");
        context(19, 5, 6, "12345678901234567885000000", "12345678901234567880000000");
        context(19, 5, 6, "12345678901234567885000000.0000000001", "12345678901234567890000000");
        context(25, 5, 6, "12345678901234567890123455", "12345678901234567890123460");
        context(25, 5, 6, "12345678901234567890123445", "12345678901234567890123440");
    }

    private static void roundedOnceFromItsExactValue() {
        Checks.sentence("WIDE: a result is rounded once, from its exact value");
        context(19, 5, 4, "0.0000149999", "0.00001");
        context(19, 10, 4, "12345678901234567884.95", "12345678901234567880");
        TwofoldAmounts x = new TwofoldAmounts(19, 5, 4);
        x.set(0, true, 0, 14999, 9);
        value(x, 0, "0.00001");
        x.set(0, true, 0, 149, 0);
        Checks.due("divide", x.divide(1, 0, 10000000, 0), 0);
        value(x, 1, "0.00001");
        x.set(0, true, 0, 149, 2);
        Checks.due("multiply", x.multiply(1, 0, 1, 5), 0);
        value(x, 1, "0.00001");
        Checks.due("multiply by the least", x.multiply(1, 0, 10067, 9), 0);
        value(x, 1, "0.00001");
        wide(x, 0, "99999999999999999990000000");
        x.set(1, true, 0, 4999999, 0);
        Checks.due("add", x.add(2, 0, 1), 0);
        Checks.due("add", x.add(2, 2, 1), 0);
        value(x, 2, "99999999999999999990000000");
        x.set(1, true, 0, 499999999999L, 5);
        Checks.due("add", x.add(2, 0, 1), 0);
        value(x, 2, "99999999999999999990000000");
        x.set(1, true, 0, 1, 5);
        x.set(2, true, 0, 100000000000000L, 0);
        Checks.due("subtract", x.subtract(3, 2, 1), 0);
        value(x, 3, "99999999999999.99999");
        x.set(2, true, 0, 1000000000000000000L, 0);
        Checks.due("subtract", x.subtract(3, 2, 1), 0);
        value(x, 3, "1000000000000000000");
    }

    /** 14285714285714285712857142.86 has more digits than P and S would leave; allocate makes it. */
    private static void contextHasNoPartElsewhere() {
        Checks.sentence("WIDE: the context rounds set(), add(), subtract(), multiply(), divide() and parse() alone");
        TwofoldAmounts x = new TwofoldAmounts(19, 5, 0);
        wide(x, 0, "99999999999999999990000000");
        x.ratio(0, 1);
        x.ratio(1, 6);
        Checks.due("allocate", x.allocate(0, 1, 2), 0);
        value(x, 1, "14285714285714285712857142.86");
        value(x, 2, "85714285714285714277142857.14");
        Checks.due("negate", x.negate(3, 1), 0);
        value(x, 3, "-14285714285714285712857142.86");
        Checks.due("round", x.round(4, 1, 7, false), 0);
        value(x, 4, "14285714285714285712857142.86");
        Checks.due("format", x.format(3, 1), "AAA -14,285,714,285,714,285,712,857,142.86".length());
        Checks.due("text", Asked.text(x), "AAA -14,285,714,285,714,285,712,857,142.86");
        x.set(5, true, 0, 0, 0);
        Checks.due("compare", x.compare(1, 4), 0);
        Checks.due("add 0", x.add(6, 1, 5), 0);
        value(x, 6, "14285714285714285720000000");
        Checks.due("subtract 0", x.subtract(6, 3, 5), 0);
        value(x, 6, "-14285714285714285720000000");
        Checks.due("times 1", x.multiply(6, 1, 1, 0), 0);
        value(x, 6, "14285714285714285720000000");
        Checks.due("by 1", x.divide(6, 1, 1, 0), 0);
        value(x, 6, "14285714285714285720000000");
        Checks.due("parse", x.parse(6, true, 1), 0);
        value(x, 6, "-14285714285714285720000000");
    }

    private static void multiplesStay() {
        Checks.sentence("MODES: a value that is a multiple already stays");
        String[] wides = {"0", "0.01", "-0.01", "0.05", "-99999999999999999999999999.95", "99999999999999999999999999.95"};
        for (int mode = 0; mode < 8; mode++) {
            TwofoldAmounts x = new TwofoldAmounts(30, 5, mode);
            for (int i = 0; i < wides.length; i++) {
                Asked.put(x, 0, true, "EEE " + wides[i]);
                value(x, 0, wides[i]);
                Checks.due("round", x.round(1, 0, mode, false), 0);
                value(x, 1, wides[i]);
            }
            x.set(0, false, 4, -35, 2);
            Checks.due("round in cash", x.round(1, 0, mode, true), 0);
            value(x, 1, "-0.35");
            x.set(0, false, 5, 92233720368547L, 0);
            Checks.due("round", x.round(1, 0, mode, false), 0);
            value(x, 1, "92233720368547");
            x.set(0, true, 0, -12345, 5);
            value(x, 0, "-0.12345");
        }
    }

    /** How many steps of 10^-10 each mode makes of a quotient, and of the same below 0. */
    private static void quotient(long n, long by, int[] due) {
        for (int mode = 0; mode < 7; mode++) {
            TwofoldAmounts x = new TwofoldAmounts(30, 10, mode);
            x.set(0, true, 0, n, 0);
            Checks.due("divide", x.divide(1, 0, by, 0), 0);
            Checks.due(n + " / " + by + " by mode " + mode, x.sign(1) * x.digits(1, 0), due[mode]);
            int mirrored = mode == 2 ? 3 : mode == 3 ? 2 : mode;
            TwofoldAmounts y = new TwofoldAmounts(30, 10, mirrored);
            y.set(0, true, 0, n, 0);
            Checks.due("divide", y.divide(1, 0, -by, 0), 0);
            Checks.due(n + " / -" + by + " by mode " + mirrored, y.sign(1) * y.digits(1, 0), -due[mode]);
        }
    }

    private static void halvesOfTheContext() {
        Checks.sentence("MODES: 4 .. halves away from 0; 5 .. halves towards 0; 6 .. halves to the even multiple");
        quotient(1, 20000000000L, new int[] {1, 0, 1, 0, 1, 0, 0});
        quotient(3, 20000000000L, new int[] {2, 1, 2, 1, 2, 1, 2});
        quotient(5, 20000000000L, new int[] {3, 2, 3, 2, 3, 2, 2});
        quotient(19, 20000000000L, new int[] {10, 9, 10, 9, 10, 9, 10});
        quotient(2, 20000000000L, new int[] {1, 1, 1, 1, 1, 1, 1});
    }

    private static void justBesideAHalf() {
        Checks.sentence("MODES: 4, 5, 6 to the nearest");
        quotient(1, 20000000001L, new int[] {1, 0, 1, 0, 0, 0, 0});
        quotient(1, 19999999999L, new int[] {1, 0, 1, 0, 1, 1, 1});
        quotient(3, 20000000001L, new int[] {2, 1, 2, 1, 1, 1, 1});
        quotient(3, 19999999999L, new int[] {2, 1, 2, 1, 2, 2, 2});
        quotient(1, 10000000001L, new int[] {1, 0, 1, 0, 1, 1, 1});
        quotient(1, 9999999999L, new int[] {2, 1, 2, 1, 1, 1, 1});
    }

    private static void farBehindTheHalf() {
        Checks.sentence("MODES: 0 away from 0; 1 towards 0; 2 up; 3 down: of the least that is no multiple");
        quotient(1, MAX, new int[] {1, 0, 1, 0, 0, 0, 0});
        quotient(1000000000, MAX, new int[] {2, 1, 2, 1, 1, 1, 1});
        for (long ten = 100000000000L; ten <= 100000000000000000L; ten *= 10) {
            quotient(1, ten, new int[] {1, 0, 1, 0, 0, 0, 0});
        }
        for (int mode = 0; mode < 7; mode++) {
            TwofoldAmounts x = new TwofoldAmounts(30, 10, mode);
            x.set(0, true, 0, 1, 9);
            for (long ten = 100; ten <= 100000000000000000L; ten *= 10) {
                Checks.due("divide", x.divide(1, 0, ten, 0), 0);
                Checks.due("10^-9 by " + ten, x.digits(1, 0), mode == 0 || mode == 2 ? 1 : 0);
            }
        }
        for (int mode = 0; mode < 7; mode++) {
            TwofoldAmounts x = new TwofoldAmounts(30, 10, mode);
            x.set(0, true, 0, 1, 9);
            x.divide(0, 0, MIN, 0);
            Checks.due("sign by mode " + mode, x.sign(0), mode == 0 || mode == 3 ? -1 : 0);
        }
    }

    private static void numbers() {
        Checks.sentence("A NUMBER n, k means n / 10^k; k is 0 .. 9");
        long ten = 1;
        for (int k = 0; k < 10; k++) {
            TwofoldAmounts x = fresh();
            x.set(0, true, 0, ten, k);
            value(x, 0, "1");
            x.set(0, true, 0, -7, k);
            x.set(1, true, 0, -7, 0);
            Checks.due("multiply", x.multiply(1, 1, 1, k), 0);
            Checks.due("the same", x.compare(0, 1), 0);
            x.set(1, true, 0, -7, 0);
            Checks.due("divide", x.divide(1, 1, ten, 0), 0);
            Checks.due("the same", x.compare(0, 1), 0);
            Checks.due("divide", x.divide(1, 1, 1, k), 0);
            value(x, 1, "-7");
            ten *= 10;
        }
        TwofoldAmounts x = fresh();
        x.set(0, true, 0, MIN, 9);
        value(x, 0, "-9223372036.854775808");
        x.set(0, true, 0, MAX, 0);
        value(x, 0, "9223372036854775807");
    }

    private static void textOf48() {
        Checks.sentence("THE TEXT is a list of characters, at most 48");
        TwofoldAmounts x = fresh();
        for (int i = 1; i <= 48; i++) {
            Checks.due("type " + i, x.type(32 + i), i);
        }
        Checks.due("the 49th", x.type(65), BAD);
        Checks.due("the 50th", x.type(126), BAD);
        for (int i = 0; i < 48; i++) {
            Checks.due("letter " + i, x.letter(i), 33 + i);
        }
        Checks.due("letter 48", x.letter(48), BAD);
        x.set(0, false, 0, 1, 0);
        Checks.due("format of a full text", x.format(0, 0), 8);
        Checks.due("text", Asked.text(x), "AAA 1.00");
        x.wipe();
        Checks.due("text", Asked.text(x), "");
    }

    private static void taken(int style, String text, String want) {
        TwofoldAmounts x = fresh();
        Asked.type(x, text);
        Checks.due("style " + style + " '" + text + "'", x.parse(0, true, style), 0);
        Checks.due("style " + style + " '" + text + "'", Asked.value(x, 0), want);
    }

    private static void stops(int style, String text, int at) {
        TwofoldAmounts x = fresh();
        Asked.type(x, text);
        Checks.due("style " + style + " '" + text + "'", x.parse(0, true, style), -100 - at);
    }

    private static void wholeParts() {
        Checks.sentence("A whole part is one or more digits");
        taken(0, "AAA 0", "0");
        taken(0, "AAA 9", "9");
        taken(0, "AAA 1234", "1234");
        taken(0, "AAA 00000000000000000000000000000000000000000000", "0");
        taken(0, "AAA 00000000000000000012345678901234567890123456", "12345678901234567890123456");
        taken(2, "00000000000000000000000000000000000000000001 AAA", "1");
        stops(0, "AAA ", 4);
        stops(0, "AAA .5", 4);
        stops(0, "AAA /", 4);
        stops(0, "AAA :", 4);
        stops(0, "AAA 1/", 5);
        stops(0, "AAA 1:", 5);
        stops(2, " AAA", 0);
        stops(0, "AAA 1,000", 5);
    }

    private static void groupedWholeParts() {
        Checks.sentence("if GROUPED, 1 to 3 digits, and then, as often as one likes, a comma (44) and 3 digits");
        taken(1, "AAA 1", "1");
        taken(1, "AAA 12", "12");
        taken(1, "AAA 123", "123");
        taken(1, "AAA 000", "0");
        taken(1, "AAA 1,234", "1234");
        taken(1, "AAA 12,345", "12345");
        taken(1, "AAA 123,456", "123456");
        taken(1, "AAA 000,000,000,000,000,000,000,000,000,000,001", "1");
        taken(1, "AAA 0,000,000,000,000,000,000,000,000,000.5", "0.5");
        stops(1, "AAA 1234", 7);
        stops(1, "AAA ,123", 4);
        stops(1, "AAA 1,", 6);
        stops(1, "AAA 1,2", 7);
        stops(1, "AAA 1,23", 8);
        stops(1, "AAA 1,2345", 9);
        stops(1, "AAA 1,,234", 6);
        stops(1, "AAA 1,2,345", 7);
        stops(1, "AAA 1,23.5", 8);
        stops(1, "AAA 1.234,567", 9);
        stops(3, "1,23 AAA", 4);
        stops(3, "1234 AAA", 3);
        stops(1, "AAA 000,000,000,000,000,000,000,000,000,000,000,", 48);
    }

    private static void digitsBehindThePoint() {
        Checks.sentence("A body is a whole part, or a whole part, a point (46) and 1 to 10 digits");
        for (int style = 0; style < 2; style++) {
            taken(style, "AAA 1.2", "1.2");
            taken(style, "AAA 1.0123456789", "1.0123456789");
            taken(style, "AAA 0.0000000001", "0.0000000001");
            stops(style, "AAA 1.", 6);
            stops(style, "AAA 1.x", 6);
            stops(style, "AAA 1.01234567890", 16);
            stops(style, "AAA 1.2.3", 7);
            stops(style, "AAA 1.2,345", 7);
        }
        taken(2, "1.0123456789 AAA", "1.0123456789");
        stops(2, "1.01234567890 AAA", 12);
        stops(2, "1. AAA", 2);
        stops(4, "AAA (1.)", 7);
        stops(4, "AAA (1.01234567890)", 17);
    }

    private static void signsAndBrackets() {
        Checks.sentence("a body, or a minus sign (45) and a body; with BRACKETS a body, or a body in round brackets");
        taken(0, "AAA -1", "-1");
        taken(2, "-1 AAA", "-1");
        taken(0, "AAA -0", "0");
        stops(0, "AAA --1", 5);
        stops(0, "AAA +1", 4);
        stops(0, "AAA -", 5);
        stops(0, "AAA 1-", 5);
        stops(0, "AAA (1)", 4);
        stops(2, "(1) AAA", 0);
        taken(4, "AAA 1", "1");
        taken(4, "AAA (1)", "-1");
        taken(6, "(1.5) AAA", "-1.5");
        taken(6, "1.5 AAA", "1.5");
        taken(4, "AAA (0)", "0");
        stops(4, "AAA -1", 4);
        stops(6, "-1 AAA", 0);
        stops(4, "AAA (-1)", 5);
        stops(4, "AAA -(1)", 4);
        stops(4, "AAA ((1))", 5);
        stops(4, "AAA ()", 5);
        stops(4, "AAA (1", 6);
        stops(4, "AAA 1)", 5);
        stops(4, "AAA (1))", 7);
        stops(6, "(1 AAA", 2);
        stops(6, "1) AAA", 1);
        stops(5, "AAA (1,000", 10);
        stops(5, "AAA (1,00)", 9);
    }

    private static void targetMayBeOneOfTheOthers() {
        Checks.sentence("The target register may be one of the others");
        TwofoldAmounts x = fresh();
        for (int kind = 0; kind < 2; kind++) {
            boolean isWide = kind == 1;
            x.set(0, isWide, 2, 7, 0);
            x.set(1, isWide, 2, 5, 0);
            Checks.due("add to a", x.add(0, 0, 1), 0);
            value(x, 0, "12");
            Checks.due("add to b", x.add(1, 0, 1), 0);
            value(x, 1, "17");
            Checks.due("add to both", x.add(0, 0, 0), 0);
            value(x, 0, "24");
            Checks.due("subtract to a", x.subtract(0, 0, 1), 0);
            value(x, 0, "7");
            Checks.due("subtract to b", x.subtract(1, 0, 1), 0);
            value(x, 1, "-10");
            Checks.due("subtract to both", x.subtract(1, 1, 1), 0);
            value(x, 1, "0");
            Checks.due("multiply", x.multiply(0, 0, 3, 1), 0);
            value(x, 0, "2.1");
            Checks.due("divide", x.divide(0, 0, -3, 0), 0);
            value(x, 0, "-0.7");
            Checks.due("negate", x.negate(0, 0), 0);
            value(x, 0, "0.7");
            Checks.due("round", x.round(0, 0, 0, false), 0);
            value(x, 0, "0.7");
        }
    }

    private static void heldAmountIsReplaced() {
        Checks.sentence("an amount that it held is replaced");
        TwofoldAmounts x = fresh();
        Asked.put(x, 0, true, "FFF -99999999999999999999999999.9999");
        x.set(0, false, 0, 1, 5);
        value(x, 0, "0.00001");
        Checks.due("kind", x.kind(0), 0);
        Asked.put(x, 1, true, "FFF -99999999999999999999999999.9999");
        Checks.due("negate", x.negate(1, 0), 0);
        value(x, 1, "-0.00001");
        Checks.due("kind", x.kind(1), 0);
        Asked.put(x, 2, true, "FFF -99999999999999999999999999.9999");
        Checks.due("add", x.add(2, 0, 0), 0);
        value(x, 2, "0.00002");
        Checks.due("kind", x.kind(2), 0);
        x.set(3, false, 1, 5, 0);
        x.ratio(0, 1);
        Asked.put(x, 4, true, "FFF -99999999999999999999999999.9999");
        Checks.due("allocate", x.allocate(3, 4, 1), 0);
        value(x, 4, "5");
        Checks.due("kind", x.kind(4), 1);
        Asked.put(x, 4, true, "DDD -1");
        value(x, 4, "-1");
        Checks.due("kind", x.kind(4), 11);
    }
}
