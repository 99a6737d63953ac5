/**
 * What is refused: every bound that the document names, from both sides, the order in which
 * refusals are tested, and that a refused call changes nothing.
 */
public final class RefusalTest {
    private static final int NO_AMOUNT = TwofoldAmounts.NO_AMOUNT;
    private static final int MISMATCH = TwofoldAmounts.MISMATCH;
    private static final int RANGE = TwofoldAmounts.RANGE;
    private static final int ZERO = TwofoldAmounts.ZERO;
    private static final int BAD = TwofoldAmounts.BAD;
    private static final int INEXACT = TwofoldAmounts.INEXACT;
    private static final int LOW = Integer.MIN_VALUE;
    private static final int HIGH = Integer.MAX_VALUE;

    private static final int[] NO_REGISTERS = {LOW, -8, -1, 8, 15, 16, HIGH};
    private static final int[] NO_CURRENCIES = {LOW, -1, 6, 7, HIGH};
    private static final int[] NO_POWERS = {LOW, -1, 10, 16, HIGH};
    private static final int[] NO_MODES_OR_STYLES = {LOW, -1, 8, 16, HIGH};
    private static final int[] NO_HALVES = {LOW, -1, 2, HIGH};
    private static final int[] NO_CHARACTERS = {LOW, -1, 0, 31, 127, 128, 256 + 65, 65536 + 65, HIGH};
    private static final int[] NO_WEIGHTS = {LOW, -1, 1000001, HIGH};
    private static final int[] EMPTY = {Filled.DISCARDED, Filled.NEVER_HELD};

    private interface Call {
        long on(TwofoldAmounts x);
    }

    public static void main(String[] args) {
        constants();
        badSet();
        badSums();
        badProductsAndQuotients();
        badNegateAndRound();
        badRatio();
        badAllocate();
        badQuestions();
        badText();
        nothingHeld();
        mismatches();
        ranges();
        zeroAndInexact();
        notOfTheStyle();
        badComesFirst();
        noAmountComesSecond();
        othersInTheirOrder();
        boundsAreTaken();
        Checks.done();
    }

    /** Makes one call on an object of its own: it is to be refused, and to leave all as it was. */
    private static void refused(String call, Call made, long code) {
        TwofoldAmounts x = Filled.object();
        String before = Filled.state(x);
        Checks.due(call, made.on(x), code);
        Checks.due(call + " changes nothing", Filled.state(x), before);
        Checks.due(call + " changes no ratio", Filled.ratios(x), "0 1 2 3 4 5 6 7");
    }

    private static void taken(String call, Call made, long answer) {
        Checks.due(call, made.on(Filled.object()), answer);
    }

    private static int asNumber(boolean answer) {
        return answer ? 1 : 0;
    }

    private static void constants() {
        Checks.sentence("The constants");
        Checks.due("NO_AMOUNT", NO_AMOUNT, -11);
        Checks.due("MISMATCH", MISMATCH, -12);
        Checks.due("RANGE", RANGE, -13);
        Checks.due("ZERO", ZERO, -14);
        Checks.due("BAD", BAD, -15);
        Checks.due("INEXACT", INEXACT, -16);
    }

    private static void badSet() {
        Checks.sentence("2: BAD when r is not 0 .. 7, currency not 0 .. 5 or k not 0 .. 9");
        for (int bad : NO_REGISTERS) {
            refused("set r " + bad, x -> x.set(bad, true, 0, 1, 0), BAD);
        }
        for (int bad : NO_CURRENCIES) {
            refused("set currency " + bad, x -> x.set(0, true, bad, 1, 0), BAD);
            refused("set currency " + bad, x -> x.set(7, false, bad, 1, 0), BAD);
        }
        for (int bad : NO_POWERS) {
            refused("set k " + bad, x -> x.set(0, true, 0, 1, bad), BAD);
            refused("set k " + bad, x -> x.set(7, false, 0, 0, bad), BAD);
        }
    }

    private static void badSums() {
        for (int bad : NO_REGISTERS) {
            Checks.sentence("3: BAD when r, a or b is not 0 .. 7");
            refused("add r " + bad, x -> x.add(bad, 4, 4), BAD);
            refused("add a " + bad, x -> x.add(4, bad, 4), BAD);
            refused("add b " + bad, x -> x.add(4, 4, bad), BAD);
            Checks.sentence("4: The same with a - b");
            refused("subtract r " + bad, x -> x.subtract(bad, 4, 4), BAD);
            refused("subtract a " + bad, x -> x.subtract(4, bad, 4), BAD);
            refused("subtract b " + bad, x -> x.subtract(4, 4, bad), BAD);
        }
    }

    private static void badProductsAndQuotients() {
        for (int bad : NO_REGISTERS) {
            Checks.sentence("5: BAD when r or a is not 0 .. 7 or k not 0 .. 9");
            refused("multiply r " + bad, x -> x.multiply(bad, 4, 2, 0), BAD);
            refused("multiply a " + bad, x -> x.multiply(4, bad, 2, 0), BAD);
            Checks.sentence("6: BAD when r or a is not 0 .. 7 or k not 0 .. 9");
            refused("divide r " + bad, x -> x.divide(bad, 4, 2, 0), BAD);
            refused("divide a " + bad, x -> x.divide(4, bad, 2, 0), BAD);
        }
        for (int bad : NO_POWERS) {
            Checks.sentence("5: BAD when r or a is not 0 .. 7 or k not 0 .. 9");
            refused("multiply k " + bad, x -> x.multiply(4, 4, 2, bad), BAD);
            refused("multiply k " + bad, x -> x.multiply(5, 5, 0, bad), BAD);
            Checks.sentence("6: BAD when r or a is not 0 .. 7 or k not 0 .. 9");
            refused("divide k " + bad, x -> x.divide(4, 4, 2, bad), BAD);
            refused("divide k " + bad, x -> x.divide(5, 5, 2, bad), BAD);
        }
    }

    private static void badNegateAndRound() {
        for (int bad : NO_REGISTERS) {
            Checks.sentence("7: BAD when r or a is not 0 .. 7");
            refused("negate r " + bad, x -> x.negate(bad, 4), BAD);
            refused("negate a " + bad, x -> x.negate(4, bad), BAD);
            Checks.sentence("8: BAD when r or a is not 0 .. 7 or mode not 0 .. 7");
            refused("round r " + bad, x -> x.round(bad, 4, 0, false), BAD);
            refused("round a " + bad, x -> x.round(4, bad, 0, true), BAD);
        }
        for (int bad : NO_MODES_OR_STYLES) {
            refused("round mode " + bad, x -> x.round(4, 4, bad, false), BAD);
            refused("round mode " + bad, x -> x.round(2, 2, bad, true), BAD);
        }
    }

    private static void badRatio() {
        Checks.sentence("9: false when one of them is out of its bounds");
        for (int bad : NO_REGISTERS) {
            refused("ratio i " + bad, x -> asNumber(x.ratio(bad, 3)), 0);
        }
        for (int bad : NO_WEIGHTS) {
            for (int i = 0; i < 8; i++) {
                int number = i;
                refused("ratio " + i + " w " + bad, x -> asNumber(x.ratio(number, bad)), 0);
            }
        }
        refused("ratio both", x -> asNumber(x.ratio(8, -1)), 0);
    }

    private static void badAllocate() {
        Checks.sentence("10: BAD when a or to is not 0 .. 7");
        for (int bad : NO_REGISTERS) {
            refused("allocate a " + bad, x -> x.allocate(bad, 5, 2), BAD);
            refused("allocate to " + bad, x -> x.allocate(4, bad, 1), BAD);
        }
        refused("allocate to 8 and n 0", x -> x.allocate(4, 8, 0), BAD);
        refused("allocate to -1 and n 9", x -> x.allocate(4, -1, 9), BAD);
        Checks.sentence("10: BAD when .. n not 1 .. 8 - to");
        for (int to = 0; to < 8; to++) {
            int first = to;
            int a = to == 0 ? 7 : to - 1;
            int[] counts = {LOW, -1, 0, 9 - to, 16 - to, HIGH};
            for (int n : counts) {
                refused("allocate to " + to + " n " + n, x -> x.allocate(a, first, n), BAD);
            }
        }
        Checks.sentence("10: BAD when .. a is one of the registers of the parts");
        for (int a = 2; a < 5; a++) {
            int source = a;
            refused("allocate " + a, x -> x.allocate(source, 2, 3), BAD);
        }
        refused("allocate all to all", x -> x.allocate(4, 0, 8), BAD);
        Checks.sentence("10: BAD when .. R is 0");
        for (int n = 1; n < 8; n++) {
            noRatios(n);
        }
    }

    private static void noRatios(int n) {
        TwofoldAmounts x = Filled.object();
        x.set(7, false, 0, 5, 0);
        for (int i = 0; i < n; i++) {
            x.ratio(i, 0);
        }
        String before = Filled.state(x);
        Checks.due("allocate by " + n + " ratios of 0", x.allocate(7, 0, n), BAD);
        Checks.due("allocate by " + n + " ratios of 0 changes nothing", Filled.state(x), before);
        x.ratio(n - 1, 1);
        Checks.due("allocate by one ratio of 1", x.allocate(7, 0, n), 0);
        Checks.due("all of it", Asked.value(x, n - 1), "5");
    }

    private static void badQuestions() {
        for (int bad : NO_REGISTERS) {
            Checks.sentence("11: BAD when a or b is not 0 .. 7");
            refused("compare a " + bad, x -> x.compare(bad, 4), BAD);
            refused("compare b " + bad, x -> x.compare(4, bad), BAD);
            Checks.sentence("12: BAD when a is not 0 .. 7");
            refused("sign " + bad, x -> x.sign(bad), BAD);
            Checks.sentence("13: BAD when a is not 0 .. 7");
            refused("kind " + bad, x -> x.kind(bad), BAD);
            Checks.sentence("14: BAD when a is not 0 .. 7 or half not 0 or 1");
            refused("digits a " + bad, x -> x.digits(bad, 0), BAD);
            refused("digits a " + bad, x -> x.digits(bad, 1), BAD);
            Checks.sentence("15: false when r is not 0 .. 7");
            refused("discard " + bad, x -> asNumber(x.discard(bad)), 0);
        }
        Checks.sentence("14: BAD when a is not 0 .. 7 or half not 0 or 1");
        for (int bad : NO_HALVES) {
            refused("digits half " + bad, x -> x.digits(4, bad), BAD);
        }
        Checks.sentence("15: false when .. it holds nothing already");
        for (int none : EMPTY) {
            refused("discard " + none, x -> asNumber(x.discard(none)), 0);
        }
    }

    private static void badText() {
        for (int bad : NO_REGISTERS) {
            Checks.sentence("16: BAD when a is not 0 .. 7 or style not 0 .. 7");
            refused("format a " + bad, x -> x.format(bad, 0), BAD);
            Checks.sentence("20: BAD when r is not 0 .. 7 or style not 0 .. 7");
            refused("parse r " + bad, x -> x.parse(bad, true, 0), BAD);
        }
        for (int bad : NO_MODES_OR_STYLES) {
            Checks.sentence("16: BAD when a is not 0 .. 7 or style not 0 .. 7");
            refused("format style " + bad, x -> x.format(4, bad), BAD);
            Checks.sentence("20: BAD when r is not 0 .. 7 or style not 0 .. 7");
            refused("parse style " + bad, x -> x.parse(4, true, bad), BAD);
        }
        Checks.sentence("17: BAD when c is out of its bounds");
        for (int bad : NO_CHARACTERS) {
            refused("type " + bad, x -> x.type(bad), BAD);
        }
        Checks.sentence("19: BAD when there is none");
        int[] places = {LOW, -1, 8, 9, 47, 48, 49, HIGH};
        for (int bad : places) {
            refused("letter " + bad, x -> x.letter(bad), BAD);
        }
    }

    private static void nothingHeld() {
        for (int none : EMPTY) {
            Checks.sentence("3: NO_AMOUNT when a or b holds nothing");
            refused("add a", x -> x.add(4, none, 4), NO_AMOUNT);
            refused("add b", x -> x.add(4, 4, none), NO_AMOUNT);
            refused("add both", x -> x.add(4, none, none), NO_AMOUNT);
            Checks.sentence("4: The same with a - b");
            refused("subtract a", x -> x.subtract(4, none, 4), NO_AMOUNT);
            refused("subtract b", x -> x.subtract(4, 4, none), NO_AMOUNT);
            Checks.sentence("5: NO_AMOUNT when a holds nothing");
            refused("multiply", x -> x.multiply(4, none, 2, 0), NO_AMOUNT);
            Checks.sentence("6: NO_AMOUNT when a holds nothing");
            refused("divide", x -> x.divide(4, none, 2, 0), NO_AMOUNT);
            Checks.sentence("7: NO_AMOUNT when a holds nothing");
            refused("negate", x -> x.negate(4, none), NO_AMOUNT);
            Checks.sentence("8: NO_AMOUNT when a holds nothing");
            refused("round", x -> x.round(4, none, 4, false), NO_AMOUNT);
            Checks.sentence("10: NO_AMOUNT when a holds nothing");
            refused("allocate", x -> x.allocate(none, 0, 2), NO_AMOUNT);
            Checks.sentence("11: NO_AMOUNT when one holds nothing");
            refused("compare a", x -> x.compare(none, 4), NO_AMOUNT);
            refused("compare b", x -> x.compare(4, none), NO_AMOUNT);
            refused("compare with itself", x -> x.compare(none, none), NO_AMOUNT);
            Checks.sentence("12, 13, 14, 16: NO_AMOUNT");
            refused("sign", x -> x.sign(none), NO_AMOUNT);
            refused("kind", x -> x.kind(none), NO_AMOUNT);
            refused("digits 0", x -> x.digits(none, 0), NO_AMOUNT);
            refused("digits 1", x -> x.digits(none, 1), NO_AMOUNT);
            refused("format", x -> x.format(none, 0), NO_AMOUNT);
        }
    }

    private static void mismatches() {
        Checks.sentence("MISMATCH = -12: Kinds or currencies of two amounts differ");
        int[][] pairs = {
            {Filled.GREATEST, Filled.PLAIN_WIDE},
            {Filled.GREATEST, Filled.PLAIN},
            {Filled.WIDEST, Filled.WIDEST_BELOW},
            {Filled.PLAIN, Filled.PLAIN_WIDE},
        };
        for (int[] pair : pairs) {
            for (int turn = 0; turn < 2; turn++) {
                int a = pair[turn];
                int b = pair[1 - turn];
                refused("add " + a + " " + b, x -> x.add(7, a, b), MISMATCH);
                refused("subtract " + a + " " + b, x -> x.subtract(7, a, b), MISMATCH);
                refused("compare " + a + " " + b, x -> x.compare(a, b), MISMATCH);
            }
        }
        Checks.sentence("The target register may be one of the others; its kind has no part in it");
        taken("add to a wide one", x -> x.add(2, 4, 4), 0);
        taken("add to another currency", x -> x.add(0, 4, 4), 0);
    }

    private static void ranges() {
        Checks.sentence("RANGE = -13: The result is out of its range");
        refused("set fast", x -> x.set(4, false, 0, Long.MAX_VALUE, 4), RANGE);
        refused("set fast", x -> x.set(4, false, 0, Long.MIN_VALUE, 4), RANGE);
        refused("set fast", x -> x.set(4, false, 0, 1, 6), RANGE);
        refused("add fast", x -> x.add(0, 0, 0), RANGE);
        refused("add fast", x -> x.add(1, 1, 1), RANGE);
        refused("add wide", x -> x.add(2, 2, 5), RANGE);
        refused("add wide", x -> x.add(3, 3, 3), RANGE);
        refused("subtract fast", x -> x.subtract(0, 0, 1), RANGE);
        refused("subtract fast", x -> x.subtract(1, 1, 0), RANGE);
        refused("multiply fast", x -> x.multiply(0, 0, 2, 0), RANGE);
        refused("multiply fast", x -> x.multiply(1, 1, -1, 0), RANGE);
        refused("multiply fast", x -> x.multiply(4, 4, 1, 6), RANGE);
        refused("multiply wide", x -> x.multiply(2, 2, -2, 0), RANGE);
        refused("divide fast", x -> x.divide(4, 4, 3, 0), RANGE);
        refused("divide fast", x -> x.divide(1, 1, -1, 0), RANGE);
        refused("divide wide", x -> x.divide(3, 3, 5, 1), RANGE);
        refused("negate fast", x -> x.negate(1, 1), RANGE);
        refused("round fast", x -> x.round(0, 0, 0, false), RANGE);
        refused("round fast", x -> x.round(1, 1, 3, true), RANGE);
        refused("round wide", x -> x.round(2, 2, 2, true), RANGE);
        refused("round wide", x -> x.round(3, 3, 4, false), RANGE);
    }

    private static void zeroAndInexact() {
        Checks.sentence("6: ZERO when n is 0");
        refused("divide fast", x -> x.divide(4, 4, 0, 0), ZERO);
        refused("divide fast", x -> x.divide(4, 4, 0, 9), ZERO);
        refused("divide wide", x -> x.divide(2, 2, 0, 0), ZERO);
        Checks.sentence("7 refused with INEXACT");
        refused("round fast", x -> x.round(0, 0, 7, false), INEXACT);
        refused("round fast", x -> x.round(1, 1, 7, true), INEXACT);
        refused("round wide", x -> x.round(2, 2, 7, false), INEXACT);
        Checks.sentence("10: INEXACT when a is no multiple of the unit");
        refused("allocate fast", x -> x.allocate(0, 4, 3), INEXACT);
        refused("allocate wide", x -> x.allocate(3, 4, 3), INEXACT);
    }

    private static void notOfTheStyle() {
        Checks.sentence("20: -100 - i when the characters 0 .. i - 1 are the beginning of some text of that style");
        for (int style = 0; style < 8; style++) {
            int asked = style;
            int due = (style & 2) != 0 ? -100 : -107;
            refused("parse in style " + style, x -> x.parse(4, true, asked), due);
            refused("parse in style " + style, x -> x.parse(7, false, asked), due);
        }
    }

    private static void badComesFirst() {
        Checks.sentence("Refusals: BAD is tested first");
        refused("set", x -> x.set(8, false, 0, Long.MAX_VALUE, 0), BAD);
        refused("set", x -> x.set(0, false, 6, Long.MAX_VALUE, 0), BAD);
        refused("set", x -> x.set(0, false, 0, Long.MAX_VALUE, -1), BAD);
        for (int none : EMPTY) {
            refused("add", x -> x.add(8, none, none), BAD);
            refused("add", x -> x.add(0, -1, none), BAD);
            refused("add", x -> x.add(0, none, 8), BAD);
            refused("subtract", x -> x.subtract(-1, none, 4), BAD);
            refused("subtract", x -> x.subtract(4, 8, none), BAD);
            refused("subtract", x -> x.subtract(4, none, -1), BAD);
            refused("multiply", x -> x.multiply(8, none, 1, 0), BAD);
            refused("multiply", x -> x.multiply(0, none, 1, 10), BAD);
            refused("divide", x -> x.divide(8, none, 0, 0), BAD);
            refused("divide", x -> x.divide(0, none, 0, -1), BAD);
            refused("negate", x -> x.negate(8, none), BAD);
            refused("round", x -> x.round(8, none, 7, false), BAD);
            refused("round", x -> x.round(0, none, 8, false), BAD);
            refused("allocate", x -> x.allocate(none, none, 1), BAD);
            refused("allocate", x -> x.allocate(none, 0, 0), BAD);
            refused("compare", x -> x.compare(none, 8), BAD);
            refused("compare", x -> x.compare(-1, none), BAD);
            refused("digits", x -> x.digits(none, 2), BAD);
            refused("format", x -> x.format(none, 8), BAD);
        }
        refused("add of kinds that differ", x -> x.add(8, 0, 5), BAD);
        refused("add beyond its range", x -> x.add(8, 0, 0), BAD);
        refused("divide by 0", x -> x.divide(8, 4, 0, 0), BAD);
        refused("divide by 0", x -> x.divide(4, 4, 0, 10), BAD);
        refused("multiply beyond its range", x -> x.multiply(-1, 0, 2, 0), BAD);
        refused("negate beyond its range", x -> x.negate(-1, 1), BAD);
        refused("round of no multiple", x -> x.round(-1, 0, 7, false), BAD);
        refused("allocate of no multiple", x -> x.allocate(0, 0, 1), BAD);
        refused("parse of no text of the style", x -> x.parse(8, false, 0), BAD);
        noRatiosAndNothingHeld();
    }

    private static void noRatiosAndNothingHeld() {
        TwofoldAmounts x = new TwofoldAmounts(19, 5, 0);
        Checks.due("allocate of nothing by no ratios", x.allocate(0, 1, 1), BAD);
        x.ratio(0, 1);
        Checks.due("allocate of nothing", x.allocate(0, 1, 1), NO_AMOUNT);
        x.ratio(0, 0);
        x.set(0, false, 1, 1, 1);
        Checks.due("allocate of no multiple by no ratios", x.allocate(0, 1, 1), BAD);
    }

    private static void noAmountComesSecond() {
        Checks.sentence("Refusals: .. then NO_AMOUNT");
        for (int none : EMPTY) {
            refused("divide by 0", x -> x.divide(4, none, 0, 0), NO_AMOUNT);
            refused("add to another kind", x -> x.add(4, none, 0), NO_AMOUNT);
            refused("add to another kind", x -> x.add(4, 0, none), NO_AMOUNT);
            refused("compare with another kind", x -> x.compare(none, 0), NO_AMOUNT);
            refused("round by mode 7", x -> x.round(4, none, 7, true), NO_AMOUNT);
        }
        TwofoldAmounts x = Filled.object();
        x.discard(Filled.LEAST);
        Checks.due("negate what was the least", x.negate(0, Filled.LEAST), NO_AMOUNT);
        Checks.due("round what was no multiple", x.round(0, Filled.LEAST, 7, false), NO_AMOUNT);
        Checks.due("allocate what was no multiple", x.allocate(Filled.LEAST, 4, 2), NO_AMOUNT);
    }

    private static void othersInTheirOrder() {
        Checks.sentence("Refusals: .. then the others in the order in which a method names them");
        refused("MISMATCH before RANGE: add", x -> x.add(7, Filled.GREATEST, Filled.WIDEST), MISMATCH);
        refused("MISMATCH before RANGE: subtract", x -> x.subtract(7, Filled.WIDEST, Filled.WIDEST_BELOW), MISMATCH);
        refused("INEXACT before RANGE: round", x -> x.round(7, Filled.GREATEST, 7, false), INEXACT);
        refused("INEXACT before RANGE: round", x -> x.round(7, Filled.WIDEST, 7, true), INEXACT);
        TwofoldAmounts x = Filled.object();
        Asked.type(x, "AAA 100000000000000000000000000.5x");
        Checks.due("-100 - i before RANGE: parse", x.parse(0, true, 0), -133);
        Checks.due("-100 - i before RANGE: parse", x.parse(0, false, 0), -133);
        Asked.type(x, "AAA 100000000000000000000000000.");
        Checks.due("-100 - i before RANGE: parse", x.parse(0, true, 0), -132);
    }

    /** The last argument inside each bound is no wrong one. */
    private static void boundsAreTaken() {
        Checks.sentence("what is inside its bounds is not BAD");
        int[] ends = {0, 7};
        for (int end : ends) {
            taken("set r " + end, x -> x.set(end, true, 0, 1, 0), 0);
            taken("add r " + end, x -> x.add(end, 4, 4), 0);
            taken("multiply r " + end, x -> x.multiply(end, 4, 1, 0), 0);
            taken("divide r " + end, x -> x.divide(end, 4, 1, 0), 0);
            taken("negate r " + end, x -> x.negate(end, 4), 0);
            taken("round r " + end, x -> x.round(end, 4, 0, false), 0);
            taken("round mode " + end, x -> x.round(4, 4, end, true), 0);
            taken("ratio i " + end, x -> asNumber(x.ratio(end, 1)), 1);
            taken("parse r " + end, x -> x.parse(end, true, 0), -107);
            taken("format style " + end, x -> x.format(4, end), 8);
            taken("discard what is held", x -> x.set(end, true, 0, 1, 0) + asNumber(x.discard(end)), 1);
            taken("sign a " + end, x -> x.set(end, true, 0, 1, 0) + x.sign(end), 1);
            taken("kind a " + end, x -> x.set(end, true, 5, 1, 0) + x.kind(end), 13);
            taken("digits a " + end, x -> x.set(end, true, 5, 1, 0) + x.digits(end, 0), 10000000000L);
            taken("compare a " + end, x -> x.set(end, true, 0, 2, 0) + x.compare(end, 5), 1);
            taken("compare b " + end, x -> x.set(end, true, 0, 2, 0) + x.compare(5, end), -1);
            taken("add a " + end, x -> x.set(end, true, 0, 2, 0) + x.add(5, end, 5), 0);
            taken("subtract b " + end, x -> x.set(end, true, 0, 2, 0) + x.subtract(5, 5, end), 0);
            taken("format a " + end, x -> x.set(end, true, 0, 2, 0) + x.format(end, 0), 8);
        }
        taken("set currency 0", x -> x.set(0, false, 0, 1, 0) + x.kind(0), 0);
        taken("set currency 5", x -> x.set(0, false, 5, 1, 0) + x.kind(0), 5);
        taken("set k 9", x -> x.set(0, true, 0, 1, 9) + x.digits(0, 0), 10);
        taken("multiply k 9", x -> x.multiply(0, 5, 1, 9) + x.digits(0, 0), 10);
        taken("divide k 9", x -> x.divide(0, 5, 1, 9) + x.digits(0, 1), 10);
        taken("ratio w 0", x -> asNumber(x.ratio(0, 0)), 1);
        taken("ratio w 1000000", x -> asNumber(x.ratio(0, 1000000)), 1);
        taken("digits half 1", x -> x.digits(0, 1), 922337);
        taken("type 32", x -> x.type(32), 9);
        taken("type 126", x -> x.type(126), 9);
        taken("letter 0", x -> x.letter(0), 'A');
        taken("letter 7", x -> x.letter(7), 'x');
    }
}
