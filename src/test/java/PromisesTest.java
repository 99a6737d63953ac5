/** Each promise by itself: ordinary inputs, the edges that the document names, wrong inputs. */
public final class PromisesTest {
    private static final int NO_AMOUNT = TwofoldAmounts.NO_AMOUNT;
    private static final int MISMATCH = TwofoldAmounts.MISMATCH;
    private static final int RANGE = TwofoldAmounts.RANGE;
    private static final int ZERO = TwofoldAmounts.ZERO;
    private static final int BAD = TwofoldAmounts.BAD;
    private static final int INEXACT = TwofoldAmounts.INEXACT;
    private static final long MAX = Long.MAX_VALUE;
    private static final long MIN = Long.MIN_VALUE;

    public static void main(String[] args) {
        promise1NewObject();
        promise1Precision();
        promise1ScaleAndMode();
        promise2SetFast();
        promise2SetWide();
        promise2ContextModes();
        promise2Refusals();
        promise3Add();
        promise4Subtract();
        promise5Multiply();
        promise6Divide();
        promise7Negate();
        promise8Modes();
        promise8Steps();
        promise8Edges();
        promise9Ratio();
        promise10Allocate();
        promise10Refusals();
        promise11Compare();
        promise12Sign();
        promise13Kind();
        promise14Digits();
        promise15Discard();
        promise16Format();
        promise16Edges();
        promise17Type();
        promise18Wipe();
        promise19Letter();
        promise20Parse();
        promise20Positions();
        promise20Refusals();
        Checks.done();
    }

    private static TwofoldAmounts fresh() {
        return new TwofoldAmounts(30, 10, 6);
    }

    private static void value(TwofoldAmounts x, int r, String want) {
        Checks.due("register " + r, Asked.value(x, r), want);
    }

    private static void text(TwofoldAmounts x, String want) {
        Checks.due("text", Asked.text(x), want);
    }

    /** Puts a value into a wide register by way of the text. */
    private static void wide(TwofoldAmounts x, int r, String code, String number) {
        Asked.type(x, code + " " + number);
        Checks.due("parse " + number, x.parse(r, true, 0), 0);
        x.wipe();
    }

    private static void promise1NewObject() {
        TwofoldAmounts x = new TwofoldAmounts(19, 5, 0);
        for (int r = 0; r < 8; r++) {
            Checks.due("kind", x.kind(r), NO_AMOUNT);
        }
        Checks.due("letter(0)", x.letter(0), BAD);
        Checks.due("type", x.type(65), 1);
        x.set(0, false, 0, 1, 0);
        Checks.due("allocate by no ratios", x.allocate(0, 1, 7), BAD);
    }

    private static void promise1Precision() {
        int[] given = {Integer.MIN_VALUE, 18, 19, 20, 29, 30, 31, Integer.MAX_VALUE};
        int[] held = {19, 19, 19, 20, 29, 30, 30, 30};
        String quotient = "1428571428571428571428571.4285714286";
        for (int i = 0; i < given.length; i++) {
            TwofoldAmounts x = new TwofoldAmounts(given[i], 10, 1);
            x.set(0, true, 0, 1000000000000000000L, 0);
            x.multiply(0, 0, 10000000, 0);
            Checks.due("divide", x.divide(1, 0, 7, 0), 0);
            String digits = quotient.replace(".", "").substring(0, held[i]);
            String whole = (digits + "0000000").substring(0, 25);
            String rest = held[i] > 25 ? "." + digits.substring(25) : "";
            value(x, 1, whole + rest);
        }
    }

    private static void promise1ScaleAndMode() {
        int[] given = {Integer.MIN_VALUE, 4, 5, 6, 9, 10, 11, Integer.MAX_VALUE};
        int[] held = {5, 5, 5, 6, 9, 10, 10, 10};
        for (int i = 0; i < given.length; i++) {
            TwofoldAmounts x = new TwofoldAmounts(30, given[i], 1);
            x.set(0, true, 0, 1, 0);
            x.divide(0, 0, 7, 0);
            value(x, 0, "0." + "1428571428".substring(0, held[i]));
        }
        TwofoldAmounts long11 = new TwofoldAmounts(30, 11, 0);
        long11.set(0, true, 0, 1, 0);
        long11.divide(0, 0, 7, 0);
        value(long11, 0, "0.1428571429");
        TwofoldAmounts away = new TwofoldAmounts(30, 5, -1);
        away.set(0, true, 0, -1, 9);
        value(away, 0, "-0.00001");
        TwofoldAmounts even = new TwofoldAmounts(30, 5, 7);
        even.set(0, true, 0, 25, 6);
        value(even, 0, "0.00002");
        even.set(0, true, 0, 35, 6);
        value(even, 0, "0.00004");
    }

    private static void promise2SetFast() {
        TwofoldAmounts x = fresh();
        Checks.due("set", x.set(0, false, 3, -1234567, 5), 0);
        value(x, 0, "-12.34567");
        Checks.due("kind", x.kind(0), 3);
        Checks.due("too many digits", x.set(0, false, 3, 1234567, 6), RANGE);
        value(x, 0, "-12.34567");
        Checks.due("zeros behind", x.set(1, false, 0, 12340000, 9), 0);
        value(x, 1, "0.01234");
        Checks.due("greatest", x.set(2, false, 0, MAX, 5), 0);
        value(x, 2, "92233720368547.75807");
        Checks.due("least", x.set(2, false, 0, MIN, 5), 0);
        value(x, 2, "-92233720368547.75808");
        Checks.due("beyond", x.set(2, false, 0, 922337203685477581L, 4), RANGE);
        Checks.due("below", x.set(2, false, 0, -922337203685477581L, 4), RANGE);
        Checks.due("far beyond", x.set(2, false, 0, MAX, 0), RANGE);
        Checks.due("far below", x.set(2, false, 0, MIN, 0), RANGE);
        Checks.due("a wrap of 2^64", x.set(2, false, 0, 184467440737095516L, 0), RANGE);
        Checks.due("one digit too many", x.set(2, false, 0, MIN, 6), RANGE);
        Checks.due("nothing", x.set(2, false, 5, 0, 9), 0);
        value(x, 2, "0");
    }

    private static void promise2SetWide() {
        TwofoldAmounts x = new TwofoldAmounts(19, 5, 4);
        Checks.due("set", x.set(7, true, 5, MAX, 0), 0);
        value(x, 7, "9223372036854775807");
        Checks.due("kind", x.kind(7), 13);
        Checks.due("set", x.set(7, true, 4, MIN, 0), 0);
        value(x, 7, "-9223372036854775808");
        x.set(0, true, 0, MIN, 9);
        value(x, 0, "-9223372036.85478");
        x.set(0, true, 0, 1234567890123456789L, 3);
        value(x, 0, "1234567890123456.789");
        x.set(0, true, 0, 5, 6);
        value(x, 0, "0.00001");
        x.set(0, true, 0, -4, 6);
        value(x, 0, "0");
        x.set(0, true, 0, 999999999, 9);
        value(x, 0, "1");
    }

    /** What each mode of the context makes of values below, at and above a half, on both sides. */
    private static void promise2ContextModes() {
        long[] given = {100, 101, 150, 199, 50, 250, 251, -101, -150, -199, -50, -250, -1};
        int[][] due = {
            {1, 2, 2, 2, 1, 3, 3, -2, -2, -2, -1, -3, -1},
            {1, 1, 1, 1, 0, 2, 2, -1, -1, -1, 0, -2, 0},
            {1, 2, 2, 2, 1, 3, 3, -1, -1, -1, 0, -2, 0},
            {1, 1, 1, 1, 0, 2, 2, -2, -2, -2, -1, -3, -1},
            {1, 1, 2, 2, 1, 3, 3, -1, -2, -2, -1, -3, 0},
            {1, 1, 1, 2, 0, 2, 3, -1, -1, -2, 0, -2, 0},
            {1, 1, 2, 2, 0, 2, 3, -1, -2, -2, 0, -2, 0},
        };
        for (int mode = 0; mode < 7; mode++) {
            TwofoldAmounts x = new TwofoldAmounts(19, 5, mode);
            for (int i = 0; i < given.length; i++) {
                x.set(0, true, 0, given[i], 7);
                Checks.due("mode " + mode + " of " + given[i], x.digits(0, 0), Math.abs(due[mode][i]) * 100000L);
                Checks.due("mode " + mode + " of " + given[i], x.sign(0), Integer.signum(due[mode][i]));
            }
        }
    }

    private static void promise2Refusals() {
        TwofoldAmounts x = fresh();
        x.set(0, true, 1, 77, 0);
        int[] registers = {-1, 8, Integer.MIN_VALUE, Integer.MAX_VALUE};
        for (int r : registers) {
            Checks.due("set register " + r, x.set(r, true, 0, 1, 0), BAD);
        }
        Checks.due("currency -1", x.set(0, true, -1, 1, 0), BAD);
        Checks.due("currency 6", x.set(0, true, 6, 1, 0), BAD);
        Checks.due("k -1", x.set(0, true, 0, 1, -1), BAD);
        Checks.due("k 10", x.set(0, true, 0, 1, 10), BAD);
        Checks.due("k 9", x.set(1, true, 5, 1, 9), 0);
        Checks.due("BAD before RANGE", x.set(0, false, 6, MAX, 0), BAD);
        value(x, 0, "77");
        Checks.due("kind", x.kind(0), 9);
    }

    private static void promise3Add() {
        TwofoldAmounts x = fresh();
        x.set(0, false, 0, MAX, 5);
        x.set(1, false, 0, 1, 5);
        Checks.due("beyond", x.add(2, 0, 1), RANGE);
        Checks.due("kind", x.kind(2), NO_AMOUNT);
        x.set(2, false, 0, MIN, 5);
        Checks.due("both ends", x.add(3, 0, 2), 0);
        value(x, 3, "-0.00001");
        Checks.due("below", x.add(2, 2, 3), RANGE);
        Checks.due("to nothing", x.add(3, 3, 1), 0);
        value(x, 3, "0");
        Checks.due("onto itself", x.add(1, 1, 1), 0);
        value(x, 1, "0.00002");
        x.set(4, true, 0, 5, 0);
        Checks.due("kinds differ", x.add(1, 1, 4), MISMATCH);
        x.set(5, true, 4, 5, 0);
        Checks.due("currencies differ", x.add(1, 4, 5), MISMATCH);
        Checks.due("none held", x.add(1, 4, 6), NO_AMOUNT);
        Checks.due("none held", x.add(1, 6, 4), NO_AMOUNT);
        Checks.due("BAD first", x.add(8, 6, 4), BAD);
        Checks.due("BAD first", x.add(0, -1, 6), BAD);
        Checks.due("BAD first", x.add(0, 6, 8), BAD);
        wide(x, 0, "AAA", "99999999999999999999999999");
        wide(x, 1, "AAA", "0.9999");
        Checks.due("just below 10^26", x.add(2, 0, 1), 0);
        value(x, 2, "99999999999999999999999999.9999");
        wide(x, 1, "AAA", "0.99995");
        Checks.due("rounds to 10^26", x.add(2, 0, 1), RANGE);
        wide(x, 1, "AAA", "-0.00005");
        Checks.due("a half to the even", x.add(3, 0, 1), 0);
        value(x, 3, "99999999999999999999999999");
        wide(x, 1, "AAA", "-0.00016");
        Checks.due("mixed signs", x.add(3, 1, 0), 0);
        value(x, 3, "99999999999999999999999998.9998");
        TwofoldAmounts away = new TwofoldAmounts(19, 10, 0);
        wide(away, 0, "AAA", "-99999999999999999990000000");
        away.set(1, true, 0, -1, 9);
        Checks.due("rounds to -10^26", away.add(0, 0, 1), RANGE);
        away.negate(1, 1);
        Checks.due("back again", away.add(0, 0, 1), 0);
        value(away, 0, "-99999999999999999990000000");
    }

    private static void promise4Subtract() {
        TwofoldAmounts x = fresh();
        x.set(0, false, 2, 100, 0);
        x.set(1, false, 2, 12345, 5);
        Checks.due("subtract", x.subtract(2, 0, 1), 0);
        value(x, 2, "99.87655");
        Checks.due("the other way", x.subtract(2, 1, 0), 0);
        value(x, 2, "-99.87655");
        Checks.due("from itself", x.subtract(2, 2, 2), 0);
        Checks.due("sign", x.sign(2), 0);
        x.set(3, false, 2, MIN, 5);
        Checks.due("nothing minus the least", x.subtract(4, 2, 3), RANGE);
        x.set(2, false, 2, -1, 5);
        Checks.due("less than nothing minus the least", x.subtract(4, 2, 3), 0);
        value(x, 4, "92233720368547.75807");
        Checks.due("below the least", x.subtract(4, 3, 4), RANGE);
        x.set(5, true, 2, 1, 0);
        Checks.due("kinds", x.subtract(4, 5, 0), MISMATCH);
        Checks.due("none held", x.subtract(4, 5, 6), NO_AMOUNT);
        Checks.due("none held", x.subtract(4, 6, 5), NO_AMOUNT);
        Checks.due("BAD", x.subtract(-1, 5, 5), BAD);
        Checks.due("BAD", x.subtract(1, 8, 5), BAD);
        Checks.due("BAD", x.subtract(1, 5, -8), BAD);
        x.set(6, true, 2, -3, 9);
        Checks.due("wide", x.subtract(5, 5, 6), 0);
        value(x, 5, "1.000000003");
    }

    private static void promise5Multiply() {
        TwofoldAmounts x = fresh();
        x.set(0, false, 0, -250, 2);
        Checks.due("multiply", x.multiply(1, 0, 125, 3), 0);
        value(x, 1, "-0.3125");
        Checks.due("by less than nothing", x.multiply(1, 1, -1, 0), 0);
        value(x, 1, "0.3125");
        Checks.due("too many digits", x.multiply(2, 1, 1, 2), RANGE);
        Checks.due("zeros behind", x.multiply(2, 1, 40, 3), 0);
        value(x, 2, "0.0125");
        x.set(3, false, 0, 1, 5);
        Checks.due("greatest", x.multiply(3, 3, MAX, 0), 0);
        value(x, 3, "92233720368547.75807");
        x.set(3, false, 0, 1, 5);
        Checks.due("least", x.multiply(4, 3, MIN, 0), 0);
        value(x, 4, "-92233720368547.75808");
        Checks.due("one beyond", x.multiply(4, 4, -1, 0), RANGE);
        Checks.due("far beyond", x.multiply(4, 4, MIN, 9), RANGE);
        Checks.due("by nothing", x.multiply(4, 4, 0, 9), 0);
        value(x, 4, "0");
        wideProducts();
        Checks.due("none held", x.multiply(1, 7, 1, 0), NO_AMOUNT);
        Checks.due("BAD first", x.multiply(8, 7, 1, 0), BAD);
        Checks.due("BAD first", x.multiply(1, 8, 1, 0), BAD);
        Checks.due("BAD first", x.multiply(1, 7, 1, 10), BAD);
        Checks.due("BAD", x.multiply(1, 0, 1, -1), BAD);
    }

    private static void wideProducts() {
        TwofoldAmounts x = fresh();
        wide(x, 0, "DDD", "12345678901234567890.1234567891");
        Checks.due("kept in 30 digits", x.multiply(1, 0, 3, 9), 0);
        value(x, 1, "37037036703.7037036704");
        Checks.due("kind", x.kind(1), 11);
        wide(x, 0, "DDD", "99999999999999999999999999.9999");
        Checks.due("rounded once", x.multiply(1, 0, 999999999, 9), 0);
        value(x, 1, "99999999899999999999999999.9999");
        Checks.due("the longest product", x.multiply(1, 0, MIN, 0), RANGE);
        x.set(2, true, 3, 1, 9);
        Checks.due("too little", x.multiply(2, 2, 5, 2), 0);
        value(x, 2, "0");
        x.set(2, true, 3, 1, 9);
        x.multiply(2, 2, 15, 2);
        value(x, 2, "0.0000000002");
        TwofoldAmounts away = new TwofoldAmounts(19, 10, 0);
        wide(away, 0, "AAA", "9999999999999999999");
        Checks.due("a digit more", away.multiply(1, 0, 11, 1), 0);
        value(away, 1, "11000000000000000000");
    }

    private static void promise6Divide() {
        TwofoldAmounts x = fresh();
        x.set(0, false, 0, 10, 0);
        Checks.due("divide", x.divide(1, 0, -8, 0), 0);
        value(x, 1, "-1.25");
        Checks.due("inexact", x.divide(1, 0, 3, 0), RANGE);
        value(x, 1, "-1.25");
        Checks.due("by a fraction", x.divide(1, 0, 5, 3), 0);
        value(x, 1, "2000");
        Checks.due("too many digits", x.divide(1, 0, 1 << 20, 0), RANGE);
        Checks.due("too great", x.divide(1, 0, 1, 9), 0);
        Checks.due("too great", x.divide(1, 1, 1, 9), RANGE);
        x.set(2, false, 0, MIN, 5);
        Checks.due("least by -1", x.divide(3, 2, -1, 0), RANGE);
        Checks.due("least by 1", x.divide(3, 2, 1, 0), 0);
        Checks.due("least by the least", x.divide(3, 2, MIN, 5), 0);
        value(x, 3, "1");
        Checks.due("nothing", x.subtract(3, 3, 3), 0);
        Checks.due("nothing by something", x.divide(3, 3, MIN, 9), 0);
        Checks.due("sign", x.sign(3), 0);
        Checks.due("by 0", x.divide(3, 0, 0, 5), ZERO);
        Checks.due("none held by 0", x.divide(3, 7, 0, 0), NO_AMOUNT);
        Checks.due("BAD first", x.divide(3, 7, 0, 10), BAD);
        Checks.due("BAD first", x.divide(3, 8, 0, 0), BAD);
        Checks.due("BAD first", x.divide(-1, 7, 0, 0), BAD);
        Checks.due("BAD", x.divide(3, 0, 1, -1), BAD);
        wideQuotients();
    }

    private static void wideQuotients() {
        TwofoldAmounts x = fresh();
        x.set(0, true, 1, 2, 0);
        x.divide(1, 0, -3, 0);
        value(x, 1, "-0.6666666667");
        Checks.due("kind", x.kind(1), 9);
        wide(x, 0, "BBB", "99999999999999999999999999.9999");
        x.divide(1, 0, MIN, 0);
        value(x, 1, "-10842021.7248550443");
        x.divide(1, 0, MAX, 9);
        value(x, 1, "10842021724855044.3412500224");
        Checks.due("beyond", x.divide(1, 0, 1, 1), RANGE);
        Checks.due("by ten", x.divide(1, 0, 100, 1), 0);
        value(x, 1, "9999999999999999999999999.99999");
        TwofoldAmounts away = new TwofoldAmounts(30, 10, 0);
        away.set(0, true, 0, -1, 9);
        away.divide(0, 0, MAX, 0);
        value(away, 0, "-0.0000000001");
        TwofoldAmounts nearest = new TwofoldAmounts(30, 5, 5);
        nearest.set(0, true, 0, 1, 5);
        nearest.divide(1, 0, 2, 0);
        value(nearest, 1, "0");
        nearest.divide(2, 0, 1999999999, 9);
        value(nearest, 2, "0.00001");
    }

    private static void promise7Negate() {
        TwofoldAmounts x = new TwofoldAmounts(19, 5, 0);
        x.set(0, false, 2, 5, 1);
        Checks.due("negate", x.negate(1, 0), 0);
        value(x, 1, "-0.5");
        Checks.due("kind", x.kind(1), 2);
        Checks.due("back", x.negate(1, 1), 0);
        value(x, 1, "0.5");
        x.set(2, false, 0, MIN, 5);
        Checks.due("the least", x.negate(3, 2), RANGE);
        Checks.due("kind", x.kind(3), NO_AMOUNT);
        x.set(2, false, 0, MAX, 5);
        Checks.due("the greatest", x.negate(3, 2), 0);
        value(x, 3, "-92233720368547.75807");
        x.set(4, true, 5, 0, 0);
        x.negate(4, 4);
        Checks.due("nothing has no sign", x.sign(4), 0);
        Checks.due("kind", x.kind(4), 13);
        Checks.due("none held", x.negate(0, 7), NO_AMOUNT);
        Checks.due("BAD first", x.negate(8, 7), BAD);
        Checks.due("BAD", x.negate(0, -1), BAD);
    }

    private static void promise8Modes() {
        int[] given = {10, 11, 15, 19, 5, 25, 26, -11, -15, -19, -5, -25, -1, 0};
        int[][] due = {
            {1, 2, 2, 2, 1, 3, 3, -2, -2, -2, -1, -3, -1, 0},
            {1, 1, 1, 1, 0, 2, 2, -1, -1, -1, 0, -2, 0, 0},
            {1, 2, 2, 2, 1, 3, 3, -1, -1, -1, 0, -2, 0, 0},
            {1, 1, 1, 1, 0, 2, 2, -2, -2, -2, -1, -3, -1, 0},
            {1, 1, 2, 2, 1, 3, 3, -1, -2, -2, -1, -3, 0, 0},
            {1, 1, 1, 2, 0, 2, 3, -1, -1, -2, 0, -2, 0, 0},
            {1, 1, 2, 2, 0, 2, 3, -1, -2, -2, 0, -2, 0, 0},
        };
        for (int mode = 0; mode < 7; mode++) {
            TwofoldAmounts x = fresh();
            for (int i = 0; i < given.length; i++) {
                for (int kind = 0; kind < 2; kind++) {
                    x.set(0, kind == 1, 0, given[i], 3);
                    String call = "round by mode " + mode + " of " + given[i];
                    Checks.due(call, x.round(1, 0, mode, false), 0);
                    Checks.due(call, x.digits(1, 0), Math.abs(due[mode][i]) * 100000000L);
                    Checks.due(call, x.sign(1), Integer.signum(due[mode][i]));
                }
            }
        }
    }

    private static void promise8Steps() {
        TwofoldAmounts x = fresh();
        String[] codes = {"AAA", "BBB", "CCC", "DDD", "EEE", "FFF"};
        String[] units = {"17.66", "18", "17.656", "17.6563", "17.66", "17.7"};
        String[] cash = {"17.66", "18", "17.656", "17.6563", "17.65", "17.6"};
        for (int c = 0; c < 6; c++) {
            wide(x, 0, codes[c], "17.65625001");
            Checks.due("round", x.round(1, 0, 4, false), 0);
            value(x, 1, units[c]);
            Checks.due("kind", x.kind(1), 8 + c);
            Checks.due("round to cash", x.round(2, 0, 4, true), 0);
            value(x, 2, cash[c]);
            Checks.due("units are no multiples", x.round(0, 0, 7, c > 3), INEXACT);
            Checks.due("multiples stay", x.round(2, 2, 7, true), 0);
            Checks.due("multiples stay", x.round(2, 2, 0, true), 0);
            value(x, 2, cash[c]);
        }
        String[] odd = {"1.13", "7", "1.127", "1.1271"};
        for (int c = 0; c < 4; c++) {
            wide(x, 0, codes[c], odd[c]);
            Checks.due("one unit of cash", x.round(0, 0, 7, true), 0);
        }
        x = fresh();
        String[] fives = {"0.025", "0.075", "0.125", "0.175", "-0.025", "-0.075", "0.02501", "0.02499", "-0.075001"};
        String[] fivesEven = {"0", "0.1", "0.1", "0.2", "0", "-0.1", "0.05", "0", "-0.1"};
        String[] fivesDown = {"0", "0.05", "0.1", "0.15", "0", "-0.05", "0.05", "0", "-0.1"};
        for (int i = 0; i < fives.length; i++) {
            wide(x, 0, "EEE", fives[i]);
            x.round(1, 0, 6, true);
            value(x, 1, fivesEven[i]);
            x.round(1, 0, 5, true);
            value(x, 1, fivesDown[i]);
        }
        x = fresh();
        String[] twos = {"0.1", "0.3", "0.5", "0.7", "0.9", "1.1", "-0.3", "0.10001", "2.9"};
        String[] twosEven = {"0", "0.4", "0.4", "0.8", "0.8", "1.2", "-0.4", "0.2", "2.8"};
        for (int i = 0; i < twos.length; i++) {
            wide(x, 0, "FFF", twos[i]);
            x.round(1, 0, 6, true);
            value(x, 1, twosEven[i]);
        }
    }

    private static void promise8Edges() {
        TwofoldAmounts x = new TwofoldAmounts(30, 10, 1);
        x.set(0, false, 0, MAX, 5);
        Checks.due("up beyond the greatest", x.round(1, 0, 4, false), RANGE);
        Checks.due("towards 0", x.round(1, 0, 1, false), 0);
        value(x, 1, "92233720368547.75");
        x.set(0, false, 3, MIN, 5);
        Checks.due("down beyond the least", x.round(0, 0, 3, false), RANGE);
        value(x, 0, "-92233720368547.75808");
        Checks.due("up", x.round(0, 0, 2, false), 0);
        value(x, 0, "-92233720368547.758");
        wide(x, 2, "BBB", "99999999999999999999999999.5");
        Checks.due("up to 10^26", x.round(2, 2, 4, false), RANGE);
        Checks.due("INEXACT before RANGE", x.round(2, 2, 7, false), INEXACT);
        value(x, 2, "99999999999999999999999999.5");
        Checks.due("halves towards 0", x.round(2, 2, 5, true), 0);
        value(x, 2, "99999999999999999999999999");
        TwofoldAmounts few = new TwofoldAmounts(19, 10, 1);
        few.set(0, true, 1, 999999999999999995L, 1);
        Checks.due("the context has no part", few.round(0, 0, 0, false), 0);
        value(few, 0, "100000000000000000");
        Checks.due("none held", x.round(0, 7, 0, false), NO_AMOUNT);
        Checks.due("BAD first", x.round(0, 7, 8, false), BAD);
        Checks.due("BAD first", x.round(0, 7, -1, false), BAD);
        Checks.due("BAD first", x.round(8, 7, 0, false), BAD);
        Checks.due("BAD", x.round(0, 8, 0, true), BAD);
    }

    private static void promise9Ratio() {
        TwofoldAmounts x = fresh();
        Checks.due("ratio", x.ratio(0, 1000000), true);
        Checks.due("ratio", x.ratio(7, 0), true);
        Checks.due("ratio", x.ratio(1, 1000000), true);
        Checks.due("too great", x.ratio(0, 1000001), false);
        Checks.due("below 0", x.ratio(0, -1), false);
        Checks.due("number 8", x.ratio(8, 1), false);
        Checks.due("number -1", x.ratio(-1, 1), false);
        x.set(0, false, 0, 1, 0);
        Checks.due("refused ones changed nothing", x.allocate(0, 1, 2), 0);
        value(x, 1, "0.5");
        value(x, 2, "0.5");
        x.ratio(1, 0);
        x.allocate(0, 1, 2);
        value(x, 1, "1");
        value(x, 2, "0");
    }

    private static void promise10Allocate() {
        TwofoldAmounts x = new TwofoldAmounts(19, 5, 0);
        int[] weights = {3, 1, 1, 2, 0, 3, 3, 1};
        for (int i = 0; i < 8; i++) {
            x.ratio(i, weights[i]);
        }
        x.set(7, false, 0, -100, 2);
        Checks.due("allocate", x.allocate(7, 0, 7), 0);
        // of 100 units by 3 1 1 2 0 3 3 of 13: 23 7 7 15 0 23 23 and remainders 1 9 9 5 0 1 1: two are left
        String[] parts = {"-0.23", "-0.08", "-0.08", "-0.15", "0", "-0.23", "-0.23"};
        for (int i = 0; i < 7; i++) {
            value(x, i, parts[i]);
            Checks.due("kind", x.kind(i), 0);
        }
        value(x, 7, "-1");
        x.set(0, true, 1, 2, 0);
        Checks.due("fewer units than parts", x.allocate(0, 1, 3), 0);
        // of 2 units by 3 1 1 of 5: 1 0 0 and remainders 1 2 2: one is left, for the lower number
        value(x, 1, "1");
        value(x, 2, "1");
        value(x, 3, "0");
        Checks.due("kind", x.kind(3), 9);
        Checks.due("one part", x.allocate(0, 7, 1), 0);
        value(x, 7, "2");
        x.set(0, true, 1, 0, 0);
        Checks.due("nothing", x.allocate(0, 1, 2), 0);
        Checks.due("sign", x.sign(1), 0);
        TwofoldAmounts wide = fresh();
        wide(wide, 0, "DDD", "-99999999999999999999999999.9999");
        for (int i = 0; i < 7; i++) {
            wide.ratio(i, 1000000 - i);
        }
        Checks.due("great ones", wide.allocate(0, 1, 7), 0);
        for (int i = 2; i < 8; i++) {
            wide.add(1, 1, i);
        }
        Checks.due("nothing is lost", wide.compare(0, 1), 0);
        x.set(0, false, 3, MAX / 10, 4);
        x.ratio(0, 1);
        x.ratio(1, 1000000);
        Checks.due("the greatest fast one", x.allocate(0, 1, 2), 0);
        // 922337203685477580 units by 1 of 1000001: 922336281349.19..
        value(x, 1, "92233628.1349");
        value(x, 2, "92233628134919.6231");
    }

    private static void promise10Refusals() {
        TwofoldAmounts x = fresh();
        x.set(3, true, 0, 100, 0);
        x.set(4, true, 0, 5, 0);
        Checks.due("no ratios", x.allocate(3, 4, 2), BAD);
        x.ratio(2, 5);
        Checks.due("the ratio isn't among them", x.allocate(3, 4, 2), BAD);
        Checks.due("the ratio is the last", x.allocate(3, 4, 3), 0);
        value(x, 6, "100");
        x.ratio(0, 1);
        Checks.due("n 0", x.allocate(3, 4, 0), BAD);
        Checks.due("n -1", x.allocate(3, 4, -1), BAD);
        Checks.due("n too great", x.allocate(3, 4, 5), BAD);
        Checks.due("n far too great", x.allocate(3, 4, Integer.MAX_VALUE), BAD);
        Checks.due("a -1", x.allocate(-1, 4, 1), BAD);
        Checks.due("a 8", x.allocate(8, 4, 1), BAD);
        Checks.due("to -1", x.allocate(3, -1, 1), BAD);
        Checks.due("to 8", x.allocate(3, 8, 0), BAD);
        Checks.due("a is the first part", x.allocate(3, 3, 2), BAD);
        Checks.due("a is the last part", x.allocate(3, 1, 3), BAD);
        Checks.due("a is behind the parts", x.allocate(3, 1, 2), 0);
        Checks.due("a is before the parts", x.allocate(3, 4, 4), 0);
        x.discard(0);
        Checks.due("none held", x.allocate(0, 4, 1), NO_AMOUNT);
        Checks.due("BAD first", x.allocate(0, 0, 1), BAD);
        x.set(0, true, 0, 5, 3);
        Checks.due("no multiple", x.allocate(0, 4, 1), INEXACT);
        value(x, 4, "16.67");
        x.set(0, false, 1, 5, 1);
        Checks.due("no multiple", x.allocate(0, 4, 1), INEXACT);
        x.set(0, true, 4, 1, 2);
        Checks.due("the cash unit has no part", x.allocate(0, 4, 1), 0);
        value(x, 4, "0.01");
    }

    private static void promise11Compare() {
        TwofoldAmounts x = fresh();
        String[] numbers = {"-99999999999999999999999999.9999", "-2", "-1.9999999999", "0", "0.0000000001", "0.1", "3", "20"};
        for (int i = 0; i < 8; i++) {
            wide(x, i, "CCC", numbers[i]);
        }
        for (int i = 0; i < 8; i++) {
            for (int j = 0; j < 8; j++) {
                Checks.due("compare " + numbers[i] + " " + numbers[j], x.compare(i, j), Integer.compare(i, j));
            }
        }
        wide(x, 1, "CCC", "10000000000000000000000000");
        wide(x, 2, "CCC", "20000000000000000000000000");
        Checks.due("the highest digit", x.compare(1, 2), -1);
        x.set(0, false, 2, MIN, 5);
        x.set(1, false, 2, MAX, 5);
        Checks.due("fast", x.compare(0, 1), -1);
        Checks.due("fast", x.compare(1, 0), 1);
        Checks.due("kinds", x.compare(1, 2), MISMATCH);
        x.set(1, true, 3, 0, 0);
        Checks.due("currencies", x.compare(1, 3), MISMATCH);
        x.discard(4);
        Checks.due("none held", x.compare(4, 1), NO_AMOUNT);
        Checks.due("none held", x.compare(1, 4), NO_AMOUNT);
        Checks.due("BAD first", x.compare(4, 8), BAD);
        Checks.due("BAD first", x.compare(-1, 4), BAD);
    }

    private static void promise12Sign() {
        TwofoldAmounts x = new TwofoldAmounts(30, 5, 4);
        for (int kind = 0; kind < 2; kind++) {
            x.set(0, kind == 1, 0, -1, 5);
            Checks.due("sign", x.sign(0), -1);
            x.set(0, kind == 1, 0, 0, 5);
            Checks.due("sign", x.sign(0), 0);
            x.set(0, kind == 1, 0, 1, 5);
            Checks.due("sign", x.sign(0), 1);
        }
        x.set(0, true, 0, -4, 6);
        Checks.due("rounded to nothing", x.sign(0), 0);
        Checks.due("none held", x.sign(1), NO_AMOUNT);
        Checks.due("BAD", x.sign(8), BAD);
        Checks.due("BAD", x.sign(-1), BAD);
    }

    private static void promise13Kind() {
        TwofoldAmounts x = fresh();
        for (int c = 0; c < 6; c++) {
            x.set(c, false, c, 1, 0);
            Checks.due("fast", x.kind(c), c);
            x.set(c, true, c, 1, 0);
            Checks.due("wide", x.kind(c), 8 + c);
        }
        x.set(0, false, 2, 1, 0);
        Checks.due("replaced", x.kind(0), 2);
        Checks.due("none held", x.kind(6), NO_AMOUNT);
        Checks.due("BAD", x.kind(8), BAD);
        Checks.due("BAD", x.kind(Integer.MIN_VALUE), BAD);
    }

    private static void promise14Digits() {
        TwofoldAmounts x = fresh();
        x.set(0, false, 0, MIN, 5);
        Checks.due("low half of the least", x.digits(0, 0), 203685477580800000L);
        Checks.due("high half of the least", x.digits(0, 1), 922337);
        wide(x, 1, "AAA", "-99999999999999999999999999.9999");
        Checks.due("low half", x.digits(1, 0), 999999999999000000L);
        Checks.due("high half", x.digits(1, 1), 999999999999999999L);
        wide(x, 1, "AAA", "0.0000000001");
        Checks.due("low half", x.digits(1, 0), 1);
        Checks.due("high half", x.digits(1, 1), 0);
        wide(x, 1, "AAA", "100000000");
        Checks.due("low half", x.digits(1, 0), 0);
        Checks.due("high half", x.digits(1, 1), 1);
        Checks.due("none held", x.digits(2, 0), NO_AMOUNT);
        Checks.due("BAD first", x.digits(2, 2), BAD);
        Checks.due("BAD first", x.digits(2, -1), BAD);
        Checks.due("BAD", x.digits(8, 0), BAD);
        Checks.due("BAD", x.digits(-1, 1), BAD);
    }

    private static void promise15Discard() {
        TwofoldAmounts x = fresh();
        Checks.due("empty", x.discard(0), false);
        x.set(0, true, 0, 5, 0);
        x.set(1, true, 0, 6, 0);
        Checks.due("held", x.discard(0), true);
        Checks.due("kind", x.kind(0), NO_AMOUNT);
        Checks.due("empty again", x.discard(0), false);
        value(x, 1, "6");
        Checks.due("register 8", x.discard(8), false);
        Checks.due("register -1", x.discard(-1), false);
        Checks.due("set again", x.set(0, false, 1, 5, 0), 0);
        Checks.due("held again", x.discard(0), true);
    }

    private static void format(TwofoldAmounts x, int style, String want) {
        Checks.due("length of " + want, x.format(0, style), want.length());
        text(x, want);
    }

    private static void promise16Format() {
        TwofoldAmounts x = fresh();
        wide(x, 0, "AAA", "-1234567.895");
        String[] styles = {
            "AAA -1234567.90", "AAA -1,234,567.90", "-1234567.90 AAA", "-1,234,567.90 AAA",
            "AAA (1234567.90)", "AAA (1,234,567.90)", "(1234567.90) AAA", "(1,234,567.90) AAA"
        };
        for (int style = 0; style < 8; style++) {
            format(x, style, styles[style]);
        }
        x.negate(0, 0);
        format(x, 4, "AAA 1234567.90");
        format(x, 3, "1,234,567.90 AAA");
        x = fresh();
        long[] units = {0, 7, 99, 100, 999, 1000, 99999, 100000, 999999};
        String[] yens = {"0", "7", "99", "100", "999", "1,000", "99,999", "100,000", "999,999"};
        for (int i = 0; i < units.length; i++) {
            x.set(0, false, 1, units[i], 0);
            format(x, 1, "BBB " + yens[i]);
        }
        String[] others = {"0.06", "0", "0.062", "0.0625", "0.06", "0.1"};
        for (int c = 0; c < 6; c++) {
            x.set(0, c % 2 == 0, c, 625, 4);
            String code = "" + (char) ('A' + c) + (char) ('A' + c) + (char) ('A' + c);
            format(x, 2, others[c] + " " + code);
        }
    }

    private static void promise16Edges() {
        TwofoldAmounts x = fresh();
        x.set(0, false, 0, -5, 3);
        format(x, 0, "AAA 0.00");
        format(x, 7, "0.00 AAA");
        x.set(0, false, 0, -15, 3);
        format(x, 0, "AAA -0.02");
        x.set(0, false, 0, -501, 5);
        format(x, 6, "(0.01) AAA");
        x.set(0, true, 0, 9995, 3);
        format(x, 0, "AAA 10.00");
        x.set(0, true, 4, 3, 2);
        format(x, 0, "EEE 0.03");
        wide(x, 0, "BBB", "-99999999999999999999999999.5");
        format(x, 7, "(100,000,000,000,000,000,000,000,000) BBB");
        value(x, 0, "-99999999999999999999999999.5");
        wide(x, 0, "DDD", "-99999999999999999999999999.9999");
        format(x, 7, "(99,999,999,999,999,999,999,999,999.9999) DDD");
        x = fresh();
        x.set(0, false, 0, MIN, 5);
        x.set(1, false, 0, 7, 0);
        format(x, 1, "AAA -92,233,720,368,547.76");
        Checks.due("none held", x.format(7, 0), NO_AMOUNT);
        Checks.due("BAD first", x.format(7, 8), BAD);
        Checks.due("BAD", x.format(0, -1), BAD);
        Checks.due("BAD", x.format(8, 0), BAD);
        text(x, "AAA -92,233,720,368,547.76");
    }

    private static void promise17Type() {
        TwofoldAmounts x = fresh();
        Checks.due("31", x.type(31), BAD);
        Checks.due("127", x.type(127), BAD);
        Checks.due("-1", x.type(-1), BAD);
        Checks.due("65 + 2^16", x.type(65 + 65536), BAD);
        text(x, "");
        Checks.due("32", x.type(32), 1);
        Checks.due("126", x.type(126), 2);
        for (int i = 3; i <= 48; i++) {
            Checks.due("type", x.type(33 + i), i);
        }
        Checks.due("the 49th", x.type(65), BAD);
        Checks.due("first", x.letter(0), 32);
        Checks.due("second", x.letter(1), 126);
        Checks.due("last", x.letter(47), 81);
        x.set(0, false, 0, 1, 0);
        Checks.due("format", x.format(0, 0), 8);
        Checks.due("behind what was written", x.type('!'), 9);
        text(x, "AAA 1.00!");
    }

    private static void promise18Wipe() {
        TwofoldAmounts x = fresh();
        x.wipe();
        text(x, "");
        x.set(0, false, 0, 1, 0);
        x.format(0, 0);
        x.wipe();
        text(x, "");
        Checks.due("type", x.type(66), 1);
        text(x, "B");
        value(x, 0, "1");
    }

    private static void promise19Letter() {
        TwofoldAmounts x = fresh();
        Checks.due("letter(0)", x.letter(0), BAD);
        Asked.type(x, "~ x");
        Checks.due("letter(0)", x.letter(0), 126);
        Checks.due("letter(1)", x.letter(1), 32);
        Checks.due("letter(2)", x.letter(2), 120);
        Checks.due("letter(3)", x.letter(3), BAD);
        Checks.due("letter(-1)", x.letter(-1), BAD);
        Checks.due("letter(MIN)", x.letter(Integer.MIN_VALUE), BAD);
        Checks.due("letter(MAX)", x.letter(Integer.MAX_VALUE), BAD);
    }

    private static void parse(int style, String text, String want) {
        TwofoldAmounts x = fresh();
        Asked.type(x, text);
        Checks.due("parse " + text, x.parse(5, true, style), 0);
        value(x, 5, want);
        text(x, text);
    }

    private static void promise20Parse() {
        parse(0, "AAA 12.50", "12.5");
        parse(0, "FFF -0012", "-12");
        parse(0, "BBB 1.0123456789", "1.0123456789");
        parse(0, "CCC -0.00", "0");
        parse(1, "DDD -1,234,567.8", "-1234567.8");
        parse(1, "DDD 12,345", "12345");
        parse(1, "DDD 000,000,123", "123");
        parse(2, "1234567 EEE", "1234567");
        parse(2, "-1.5 EEE", "-1.5");
        parse(3, "-1,000 EEE", "-1000");
        parse(4, "AAA (12.50)", "-12.5");
        parse(4, "AAA 12.50", "12.5");
        parse(5, "AAA (1,222)", "-1222");
        parse(6, "(3.25) FFF", "-3.25");
        parse(6, "3.25 FFF", "3.25");
        parse(7, "(999,999.9) FFF", "-999999.9");
        parse(0, "AAA 00000000000000000000000000000000000000000007", "7");
        TwofoldAmounts x = new TwofoldAmounts(19, 5, 3);
        Asked.type(x, "CCC -0.000001");
        Checks.due("fast has five digits", x.parse(0, false, 0), RANGE);
        Checks.due("kind", x.kind(0), NO_AMOUNT);
        Checks.due("wide is rounded", x.parse(0, true, 0), 0);
        value(x, 0, "-0.00001");
        Checks.due("kind", x.kind(0), 10);
        Asked.type(x, "EEE 1.2345600000");
        Checks.due("fast with zeros behind", x.parse(0, false, 0), 0);
        value(x, 0, "1.23456");
        Checks.due("kind", x.kind(0), 4);
        Asked.type(x, "AAA 12345678901234567899.9");
        Checks.due("twenty digits of 19", x.parse(0, true, 0), 0);
        value(x, 0, "12345678901234567890");
    }

    private static void stops(int style, String text, int at) {
        TwofoldAmounts x = fresh();
        x.set(5, false, 1, 7, 0);
        Asked.type(x, text);
        Checks.due("parse in style " + style + " '" + text + "'", x.parse(5, true, style), -100 - at);
        value(x, 5, "7");
        text(x, text);
    }

    private static void promise20Positions() {
        for (int style = 0; style < 8; style++) {
            stops(style, "", 0);
            stops(style, " ", 0);
            stops(style, "G", 0);
        }
        stops(0, "A", 1);
        stops(0, "AB", 1);
        stops(0, "AAB", 2);
        stops(0, "AAA", 3);
        stops(0, "AAAA", 3);
        stops(0, "AAA ", 4);
        stops(0, "AAA  1", 4);
        stops(0, "AAA -", 5);
        stops(0, "AAA --1", 5);
        stops(0, "AAA (1)", 4);
        stops(0, "AAA .5", 4);
        stops(0, "AAA 1.", 6);
        stops(0, "AAA 1..5", 6);
        stops(0, "AAA 1.5.", 7);
        stops(0, "AAA 1,000", 5);
        stops(0, "AAA 1 ", 5);
        stops(0, "AAA 1.01234567890", 16);
        stops(1, "AAA 1000", 7);
        stops(1, "AAA 1,00", 8);
        stops(1, "AAA 1,00.5", 8);
        stops(1, "AAA 1,0000", 9);
        stops(1, "AAA ,000", 4);
        stops(1, "AAA 1,,000", 6);
        stops(1, "AAA 1.5,000", 7);
        stops(2, "AAA 1", 0);
        stops(2, "1", 1);
        stops(2, "1 ", 2);
        stops(2, "1.AAA", 2);
        stops(2, "1AAA", 1);
        stops(2, "1 AAB", 4);
        stops(2, "1 AA", 4);
        stops(2, "1 AAA ", 5);
        stops(2, "1 AAAA", 5);
        stops(2, "1 aaa", 2);
        stops(3, "12,3 AAA", 4);
        stops(4, "AAA -1", 4);
        stops(4, "AAA (1", 6);
        stops(4, "AAA (1.", 7);
        stops(4, "AAA (1.5", 8);
        stops(4, "AAA (1.5))", 9);
        stops(4, "AAA 1.5)", 7);
        stops(4, "AAA ()", 5);
        stops(4, "AAA (-1)", 5);
        stops(4, "AAA ((1))", 5);
        stops(6, "(1 AAA", 2);
        stops(6, "(1) AAA)", 7);
        stops(6, "(1)AAA", 3);
        stops(7, "(1,000 AAA", 6);
        stops(7, "-1,000 AAA", 0);
    }

    private static void promise20Refusals() {
        TwofoldAmounts x = fresh();
        Asked.type(x, "AAA x");
        Checks.due("BAD first", x.parse(8, true, 0), BAD);
        Checks.due("BAD first", x.parse(-1, true, 0), BAD);
        Checks.due("BAD first", x.parse(0, true, 8), BAD);
        Checks.due("BAD first", x.parse(0, true, -1), BAD);
        Asked.type(x, "AAA 92233720368547.75807");
        Checks.due("the greatest", x.parse(0, false, 0), 0);
        Asked.type(x, "AAA -92233720368547.75808");
        Checks.due("the least", x.parse(0, false, 0), 0);
        value(x, 0, "-92233720368547.75808");
        Asked.type(x, "AAA 92233720368547.75808");
        Checks.due("beyond", x.parse(0, false, 0), RANGE);
        Asked.type(x, "AAA -92233720368547.75809");
        Checks.due("below", x.parse(0, false, 0), RANGE);
        value(x, 0, "-92233720368547.75808");
        Asked.type(x, "AAA 99999999999999999999999999.99995");
        Checks.due("rounds to 10^26", x.parse(0, true, 0), RANGE);
        Asked.type(x, "AAA 100000000000000000000000000");
        Checks.due("10^26", x.parse(0, true, 0), RANGE);
        Asked.type(x, "AAA 99999999999999999999999999999999999999999999");
        Checks.due("as long as can be", x.parse(0, true, 0), RANGE);
        Checks.due("as long as can be", x.parse(0, false, 0), RANGE);
        Asked.type(x, "AAA 99999999999999999999999999999999999999999999".replace("AAA ", "") + " AAA");
        Checks.due("as long as can be", x.parse(0, true, 2), RANGE);
        value(x, 0, "-92233720368547.75808");
    }
}
