import java.util.Arrays;

/**
 * Eight registers of amounts of money, each kept in one of two ways: exactly in a long, or in many
 * digits rounded by a context.
 *
 * <p>Both kinds are held as decimal digits, so that one exact arithmetic serves both; a kind only
 * decides which results are rounded and which are refused.
 */
public final class TwofoldAmounts {
    public static final int NO_AMOUNT = -11;
    public static final int MISMATCH = -12;
    public static final int RANGE = -13;
    public static final int ZERO = -14;
    public static final int BAD = -15;
    public static final int INEXACT = -16;

    private static final int DONE = 0;
    private static final int NOT_OF_STYLE = -100;

    private static final int REGISTERS = 8;
    private static final int CURRENCIES = 6;
    private static final int MODES = 8;
    private static final int STYLES = 8;
    private static final int GREATEST_POWER = 9;
    private static final int GREATEST_RATIO = 1000000;
    private static final int WIDE_FLAG = 8;

    private static final int HALVES_TO_EVEN = 6;
    private static final int REFUSE_INEXACT = 7;

    private static final int GROUPED = 1;
    private static final int BEHIND = 2;
    private static final int BRACKETS = 4;

    private static final int TEXT_LIMIT = 48;
    private static final int CODE_LETTERS = 3;
    private static final int GROUP_DIGITS = 3;
    private static final int FRACTION_DIGITS = 10;

    /** Digits behind the point, and digits in all, of an amount: less than 10^26 in steps of 10^-10. */
    private static final int AMOUNT_PLACES = 10;
    private static final int AMOUNT_DIGITS = 36;
    private static final int HALF_DIGITS = 18;

    /**
     * Digits behind the point, and digits in all, of a result before it is rounded. A product has
     * up to 10 + 9 digits behind the point and 26 + 19 before it, a text up to 44 before it.
     */
    private static final int WORK_PLACES = 20;
    private static final int WORK_DIGITS = 72;

    private static final int SHIFT = WORK_PLACES - AMOUNT_PLACES;
    private static final int FAST_PLACES = 5;
    private static final int LONG_DIGITS = 19;
    private static final long LEAST_LONG = 1L << 63;

    private static final int[] UNIT_DIGITS = {2, 0, 3, 4, 2, 1};
    private static final int[] CASH_UNITS = {1, 1, 1, 1, 5, 2};

    private final int contextPrecision;
    private final int contextScale;
    private final int contextMode;
    private final Amount[] amounts;
    private final int[] ratios;
    private final long[] remainders;
    private final Work work;
    private final Work share;
    private final Text text;

    public TwofoldAmounts(int precision, int scale, int mode) {
        contextPrecision = Math.max(19, Math.min(30, precision));
        contextScale = Math.max(5, Math.min(10, scale));
        contextMode = Math.max(0, Math.min(6, mode));
        amounts = new Amount[REGISTERS];
        for (int r = 0; r < REGISTERS; r++) {
            amounts[r] = new Amount();
        }
        ratios = new int[REGISTERS];
        remainders = new long[REGISTERS];
        work = new Work();
        share = new Work();
        text = new Text();
    }

    public int set(int r, boolean wide, int currency, long n, int k) {
        if (!isRegister(r) || currency < 0 || currency >= CURRENCIES || !isPower(k)) {
            return BAD;
        }
        work.loadNumber(n, WORK_PLACES - k);
        return keep(r, wide, currency);
    }

    public int add(int r, int a, int b) {
        return combine(r, a, b, false);
    }

    public int subtract(int r, int a, int b) {
        return combine(r, a, b, true);
    }

    public int multiply(int r, int a, long n, int k) {
        if (!isRegister(r) || !isRegister(a) || !isPower(k)) {
            return BAD;
        }
        Amount source = amounts[a];
        if (!source.held) {
            return NO_AMOUNT;
        }
        work.load(source.row, SHIFT - k, source.negative);
        work.times(n);
        return keep(r, source.wide, source.currency);
    }

    public int divide(int r, int a, long n, int k) {
        if (!isRegister(r) || !isRegister(a) || !isPower(k)) {
            return BAD;
        }
        Amount source = amounts[a];
        if (!source.held) {
            return NO_AMOUNT;
        }
        if (n == 0) {
            return ZERO;
        }
        work.load(source.row, SHIFT + k, source.negative);
        work.over(n, 0);
        return keep(r, source.wide, source.currency);
    }

    public int negate(int r, int a) {
        if (!isRegister(r) || !isRegister(a)) {
            return BAD;
        }
        Amount source = amounts[a];
        if (!source.held) {
            return NO_AMOUNT;
        }
        work.load(source.row, SHIFT, !source.negative);
        return store(r, source.wide, source.currency);
    }

    public int round(int r, int a, int mode, boolean cash) {
        if (!isRegister(r) || !isRegister(a) || mode < 0 || mode >= MODES) {
            return BAD;
        }
        Amount source = amounts[a];
        if (!source.held) {
            return NO_AMOUNT;
        }
        int step = cash ? CASH_UNITS[source.currency] : 1;
        work.load(source.row, SHIFT, source.negative);
        if (!work.toMultiple(unitPlace(source.currency), step, mode)) {
            return INEXACT;
        }
        return store(r, source.wide, source.currency);
    }

    public boolean ratio(int i, int w) {
        if (!isRegister(i) || w < 0 || w > GREATEST_RATIO) {
            return false;
        }
        ratios[i] = w;
        return true;
    }

    public int allocate(int a, int to, int n) {
        if (!isRegister(a) || !isRegister(to) || n < 1 || n > REGISTERS - to) {
            return BAD;
        }
        long sum = sumOfRatios(n);
        if (a >= to && a < to + n || sum == 0) {
            return BAD;
        }
        Amount source = amounts[a];
        if (!source.held) {
            return NO_AMOUNT;
        }
        int place = unitPlace(source.currency);
        work.load(source.row, SHIFT, source.negative);
        if (!work.toMultiple(place, 1, REFUSE_INEXACT)) {
            return INEXACT;
        }
        long rest = work.over(sum, place);
        long spare = splitRest(rest, sum, n);
        for (int i = 0; i < n; i++) {
            long more = rest * ratios[i] / sum + (rankOf(i, n) < spare ? 1 : 0);
            share.load(work.row, 0, source.negative);
            share.times(ratios[i]);
            share.increase(place, (int) more);
            amounts[to + i].take(share, source.wide, source.currency);
        }
        return DONE;
    }

    public int compare(int a, int b) {
        if (!isRegister(a) || !isRegister(b)) {
            return BAD;
        }
        Amount left = amounts[a];
        Amount right = amounts[b];
        if (!left.held || !right.held) {
            return NO_AMOUNT;
        }
        if (!left.isLike(right)) {
            return MISMATCH;
        }
        if (left.negative != right.negative) {
            return left.negative ? -1 : 1;
        }
        int order = compareRows(left.row, right.row);
        return left.negative ? -order : order;
    }

    public int sign(int a) {
        if (!isRegister(a)) {
            return BAD;
        }
        Amount amount = amounts[a];
        if (!amount.held) {
            return NO_AMOUNT;
        }
        if (amount.negative) {
            return -1;
        }
        return isZero(amount.row, 0, AMOUNT_DIGITS) ? 0 : 1;
    }

    public int kind(int a) {
        if (!isRegister(a)) {
            return BAD;
        }
        Amount amount = amounts[a];
        if (!amount.held) {
            return NO_AMOUNT;
        }
        return amount.currency + (amount.wide ? WIDE_FLAG : 0);
    }

    public long digits(int a, int half) {
        if (!isRegister(a) || half < 0 || half > 1) {
            return BAD;
        }
        Amount amount = amounts[a];
        if (!amount.held) {
            return NO_AMOUNT;
        }
        return asLong(amount.row, half * HALF_DIGITS, HALF_DIGITS);
    }

    public boolean discard(int r) {
        if (!isRegister(r) || !amounts[r].held) {
            return false;
        }
        amounts[r].held = false;
        return true;
    }

    public int format(int a, int style) {
        if (!isRegister(a) || style < 0 || style >= STYLES) {
            return BAD;
        }
        Amount amount = amounts[a];
        if (!amount.held) {
            return NO_AMOUNT;
        }
        work.load(amount.row, SHIFT, amount.negative);
        work.toMultiple(unitPlace(amount.currency), 1, HALVES_TO_EVEN);
        text.size = 0;
        if ((style & BEHIND) != 0) {
            writeNumber(amount.currency, style);
            text.append(' ');
            text.appendCode(amount.currency);
        } else {
            text.appendCode(amount.currency);
            text.append(' ');
            writeNumber(amount.currency, style);
        }
        return text.size;
    }

    public int type(int c) {
        if (c < 32 || c > 126 || text.size >= TEXT_LIMIT) {
            return BAD;
        }
        text.append(c);
        return text.size;
    }

    public void wipe() {
        text.size = 0;
    }

    public int letter(int i) {
        if (i < 0 || i >= text.size) {
            return BAD;
        }
        return text.letters[i];
    }

    public int parse(int r, boolean wide, int style) {
        if (!isRegister(r) || style < 0 || style >= STYLES) {
            return BAD;
        }
        text.at = 0;
        work.clear();
        if (!readStyle(style) || text.at < text.size) {
            return NOT_OF_STYLE - text.at;
        }
        return keep(r, wide, text.currency);
    }

    private static boolean isRegister(int r) {
        return r >= 0 && r < REGISTERS;
    }

    private static boolean isPower(int k) {
        return k >= 0 && k <= GREATEST_POWER;
    }

    /** Where the work row has the digit that counts units of a currency. */
    private static int unitPlace(int currency) {
        return WORK_PLACES - UNIT_DIGITS[currency];
    }

    private int combine(int r, int a, int b, boolean minus) {
        if (!isRegister(r) || !isRegister(a) || !isRegister(b)) {
            return BAD;
        }
        Amount left = amounts[a];
        Amount right = amounts[b];
        if (!left.held || !right.held) {
            return NO_AMOUNT;
        }
        if (!left.isLike(right)) {
            return MISMATCH;
        }
        boolean rightNegative = right.negative != minus;
        if (left.negative == rightNegative) {
            work.load(left.row, SHIFT, left.negative);
            work.join(right.row, SHIFT, 1);
        } else if (compareRows(left.row, right.row) >= 0) {
            work.load(left.row, SHIFT, left.negative);
            work.join(right.row, SHIFT, -1);
        } else {
            work.load(right.row, SHIFT, rightNegative);
            work.join(left.row, SHIFT, -1);
        }
        return keep(r, left.wide, left.currency);
    }

    /** Puts the exact result into register r, rounded by the context if it is wide. */
    private int keep(int r, boolean wide, int currency) {
        if (wide) {
            int whole = Math.max(0, work.size() - WORK_PLACES);
            int places = Math.min(contextScale, contextPrecision - whole);
            work.toMultiple(WORK_PLACES - places, 1, contextMode);
        }
        return store(r, wide, currency);
    }

    /** Puts the result into register r as it is. */
    private int store(int r, boolean wide, int currency) {
        if (!(wide ? work.fitsWide() : work.fitsFast())) {
            return RANGE;
        }
        amounts[r].take(work, wide, currency);
        return DONE;
    }

    private long sumOfRatios(int n) {
        long sum = 0;
        for (int i = 0; i < n; i++) {
            sum += ratios[i];
        }
        return sum;
    }

    /**
     * Notes what remains of each part and answers how many units that leaves over. The amount is a
     * whole number of times the sum, and rest; only the rest leaves remainders.
     */
    private long splitRest(long rest, long sum, int n) {
        long all = 0;
        for (int i = 0; i < n; i++) {
            remainders[i] = rest * ratios[i] % sum;
            all += remainders[i];
        }
        return all / sum;
    }

    /** How many parts come before part i when the units that are left are given out. */
    private int rankOf(int i, int n) {
        int rank = 0;
        for (int j = 0; j < n; j++) {
            if (remainders[j] > remainders[i] || remainders[j] == remainders[i] && j < i) {
                rank++;
            }
        }
        return rank;
    }

    private void writeNumber(int currency, int style) {
        boolean minus = work.negative && work.size() > 0;
        boolean brackets = (style & BRACKETS) != 0;
        if (minus) {
            text.append(brackets ? '(' : '-');
        }
        writeBody(UNIT_DIGITS[currency], (style & GROUPED) != 0);
        if (minus && brackets) {
            text.append(')');
        }
    }

    private void writeBody(int places, boolean grouped) {
        int whole = Math.max(1, work.size() - WORK_PLACES);
        for (int i = whole - 1; i >= 0; i--) {
            text.append('0' + work.row[WORK_PLACES + i]);
            if (grouped && i > 0 && i % GROUP_DIGITS == 0) {
                text.append(',');
            }
        }
        if (places > 0) {
            text.append('.');
        }
        for (int i = 1; i <= places; i++) {
            text.append('0' + work.row[WORK_PLACES - i]);
        }
    }

    /**
     * Reads a text of a style into the work row. Here and in what it calls, false means that the
     * character where the text now stands can't go on, or is missing.
     */
    private boolean readStyle(int style) {
        if ((style & BEHIND) != 0) {
            return readNumber(style) && text.skip(' ') && text.skipCode();
        }
        return text.skipCode() && text.skip(' ') && readNumber(style);
    }

    private boolean readNumber(int style) {
        boolean brackets = (style & BRACKETS) != 0;
        work.negative = text.skip(brackets ? '(' : '-');
        if (!readBody((style & GROUPED) != 0)) {
            return false;
        }
        return !(brackets && work.negative) || text.skip(')');
    }

    private boolean readBody(boolean grouped) {
        int start = text.at;
        if (!text.skipWhole(grouped)) {
            return false;
        }
        takeWhole(start, text.at);
        if (!text.skip('.')) {
            return true;
        }
        int point = text.at;
        int count = text.skipDigits(FRACTION_DIGITS);
        for (int i = 0; i < count; i++) {
            work.row[WORK_PLACES - 1 - i] = text.letters[point + i] - '0';
        }
        return count > 0;
    }

    private void takeWhole(int start, int end) {
        int place = WORK_PLACES;
        for (int i = end - 1; i >= start; i--) {
            if (text.letters[i] != ',') {
                work.row[place] = text.letters[i] - '0';
                place++;
            }
        }
    }

    private static int compareRows(int[] left, int[] right) {
        for (int i = AMOUNT_DIGITS - 1; i >= 0; i--) {
            if (left[i] != right[i]) {
                return left[i] < right[i] ? -1 : 1;
            }
        }
        return 0;
    }

    private static boolean isZero(int[] row, int from, int to) {
        for (int i = from; i < to; i++) {
            if (row[i] != 0) {
                return false;
            }
        }
        return true;
    }

    private static long asLong(int[] row, int from, int count) {
        long value = 0;
        for (int i = from + count - 1; i >= from; i--) {
            value = value * 10 + row[i];
        }
        return value;
    }

    /** What a register holds; the row has the digits of the absolute value, the lowest one first. */
    private static final class Amount {
        final int[] row = new int[AMOUNT_DIGITS];
        boolean held;
        boolean wide;
        boolean negative;
        int currency;

        boolean isLike(Amount other) {
            return wide == other.wide && currency == other.currency;
        }

        void take(Work result, boolean asWide, int ofCurrency) {
            System.arraycopy(result.row, SHIFT, row, 0, AMOUNT_DIGITS);
            held = true;
            wide = asWide;
            currency = ofCurrency;
            negative = result.negative && !isZero(row, 0, AMOUNT_DIGITS);
        }
    }

    /** An exact result on its way into a register; its row too has the lowest digit first. */
    private static final class Work {
        final int[] row = new int[WORK_DIGITS];
        final int[] factor = new int[LONG_DIGITS];
        boolean negative;

        /** A quotient may go on behind the row: then the value is greater, by less than one. */
        boolean goesOn;

        void clear() {
            Arrays.fill(row, 0);
            negative = false;
            goesOn = false;
        }

        void load(int[] source, int place, boolean asNegative) {
            clear();
            System.arraycopy(source, 0, row, place, source.length);
            negative = asNegative;
        }

        void loadNumber(long n, int place) {
            clear();
            spell(n, row, place);
            negative = n < 0;
        }

        /** Writes the digits of |n|; each by itself, since the least long has no absolute value. */
        static void spell(long n, int[] target, int place) {
            long left = n;
            for (int i = 0; i < LONG_DIGITS; i++) {
                target[place + i] = (int) Math.abs(left % 10);
                left /= 10;
            }
        }

        int size() {
            for (int i = WORK_DIGITS; i > 0; i--) {
                if (row[i - 1] != 0) {
                    return i;
                }
            }
            return 0;
        }

        /** Brings every place back to one digit. */
        void carry() {
            int over = 0;
            for (int i = 0; i < WORK_DIGITS; i++) {
                int sum = row[i] + over;
                row[i] = Math.floorMod(sum, 10);
                over = Math.floorDiv(sum, 10);
            }
        }

        void increase(int place, int by) {
            row[place] += by;
            carry();
        }

        /** Adds (side 1) or takes away (side -1) a row that, taken away, is not the greater one. */
        void join(int[] other, int place, int side) {
            for (int i = 0; i < AMOUNT_DIGITS; i++) {
                row[place + i] += side * other[i];
            }
            carry();
        }

        /** Goes from the top down, so that a digit is read before products are added to its place. */
        void times(long n) {
            spell(n, factor, 0);
            for (int i = size() - 1; i >= 0; i--) {
                int digit = row[i];
                row[i] = 0;
                for (int j = 0; j < LONG_DIGITS && i + j < WORK_DIGITS; j++) {
                    row[i + j] += digit * factor[j];
                }
            }
            carry();
            negative = negative != (n < 0);
        }

        /**
         * Divides the digits from a place on by n, which is not 0, and answers the remainder. Rest
         * and divisor are kept below 0, where the least long has its room, and ten times the rest
         * is added up one by one, so that nothing ever goes beyond the divisor.
         */
        long over(long n, int lowest) {
            long divisor = n < 0 ? n : -n;
            long rest = 0;
            for (int i = size() - 1; i >= lowest; i--) {
                int count = 0;
                long next = 0;
                for (int j = 0; j < 10 + row[i]; j++) {
                    long part = j < 10 ? rest : -1;
                    long room = divisor - next;
                    if (part <= room) {
                        next = part - room;
                        count++;
                    } else {
                        next += part;
                    }
                }
                row[i] = count;
                rest = next;
            }
            goesOn = rest != 0;
            negative = negative != (n < 0);
            return -rest;
        }

        /**
         * Rounds to a multiple of step (1, 2 or 5) at a place; false when the mode refuses it. As
         * each step divides 10, two digits tell what is over and whether the multiple is even.
         */
        boolean toMultiple(int place, int step, int mode) {
            int low = row[place + 1] * 10 + row[place];
            int tenths = low % step * 10 + row[place - 1];
            boolean behind = goesOn || !isZero(row, 0, place - 1);
            if (tenths == 0 && !behind) {
                return true;
            }
            if (mode == REFUSE_INEXACT) {
                return false;
            }
            int half = Integer.compare(tenths, step * 5);
            if (half == 0 && behind) {
                half = 1;
            }
            boolean away = goesAway(mode, half, low / step % 2 != 0);
            for (int i = 0; i < place; i++) {
                row[i] = 0;
            }
            goesOn = false;
            increase(place, (away ? step : 0) - low % step);
            return true;
        }

        /** Half is below, at or above 0 as the value is below, at or above the middle of a step. */
        private boolean goesAway(int mode, int half, boolean odd) {
            switch (mode) {
                case 0:
                    return true;
                case 1:
                    return false;
                case 2:
                    return !negative;
                case 3:
                    return negative;
                case 4:
                    return half >= 0;
                case 5:
                    return half > 0;
                default:
                    return half > 0 || half == 0 && odd;
            }
        }

        boolean fitsWide() {
            return isZero(row, SHIFT + AMOUNT_DIGITS, WORK_DIGITS);
        }

        /** Nineteen digits may wrap, but not beyond 2^64: too great ones come out below 0. */
        boolean fitsFast() {
            int lowest = WORK_PLACES - FAST_PLACES;
            if (goesOn || !isZero(row, 0, lowest) || !isZero(row, lowest + LONG_DIGITS, WORK_DIGITS)) {
                return false;
            }
            long value = asLong(row, lowest, LONG_DIGITS);
            return value >= 0 || negative && value == LEAST_LONG;
        }
    }

    /** The text, and where the reading of it stands. */
    private static final class Text {
        final int[] letters = new int[TEXT_LIMIT];
        int size;
        int at;
        int currency;

        void append(int c) {
            if (size < TEXT_LIMIT) {
                letters[size] = c;
                size++;
            }
        }

        void appendCode(int ofCurrency) {
            for (int i = 0; i < CODE_LETTERS; i++) {
                append('A' + ofCurrency);
            }
        }

        boolean skip(int c) {
            if (at >= size || letters[at] != c) {
                return false;
            }
            at++;
            return true;
        }

        boolean skipCode() {
            currency = at < size ? letters[at] - 'A' : -1;
            if (currency < 0 || currency >= CURRENCIES) {
                return false;
            }
            for (int i = 0; i < CODE_LETTERS; i++) {
                if (!skip('A' + currency)) {
                    return false;
                }
            }
            return true;
        }

        int skipDigits(int most) {
            int count = 0;
            while (count < most && at < size && letters[at] >= '0' && letters[at] <= '9') {
                at++;
                count++;
            }
            return count;
        }

        boolean skipWhole(boolean grouped) {
            if (!grouped) {
                return skipDigits(TEXT_LIMIT) > 0;
            }
            if (skipDigits(GROUP_DIGITS) == 0) {
                return false;
            }
            for (int i = 0; i < TEXT_LIMIT && skip(','); i++) {
                if (skipDigits(GROUP_DIGITS) < GROUP_DIGITS) {
                    return false;
                }
            }
            return true;
        }
    }
}
