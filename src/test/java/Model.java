import java.math.BigDecimal;
import java.math.BigInteger;
import java.util.ArrayList;
import java.util.List;
import java.util.regex.Pattern;

/** The document once more, in plain fractions, lists and patterns, to be compared with the program. */
final class Model {
    static final int NO_AMOUNT = -11;
    static final int MISMATCH = -12;
    static final int RANGE = -13;
    static final int ZERO = -14;
    static final int BAD = -15;
    static final int INEXACT = -16;
    static final int[] DIGITS = {2, 0, 3, 4, 2, 1};
    static final int[] CASH = {1, 1, 1, 1, 5, 2};

    /** An exact value; the denominator is greater than 0. */
    record Fraction(BigInteger over, BigInteger under) {
        static Fraction of(BigDecimal value) {
            BigDecimal whole = value.setScale(Math.max(0, value.scale()));
            return new Fraction(whole.unscaledValue(), BigInteger.TEN.pow(whole.scale()));
        }

        Fraction times(Fraction other) {
            return new Fraction(over.multiply(other.over), under.multiply(other.under));
        }

        Fraction by(Fraction other) {
            BigInteger top = over.multiply(other.under);
            BigInteger bottom = under.multiply(other.over);
            return bottom.signum() < 0 ? new Fraction(top.negate(), bottom.negate()) : new Fraction(top, bottom);
        }
    }

    record Amount(int currency, boolean wide, BigDecimal value) {
    }

    final int precision;
    final int scale;
    final int mode;
    final Amount[] registers = new Amount[8];
    final int[] ratios = new int[8];
    String text = "";

    Model(int precision, int scale, int mode) {
        this.precision = precision < 19 ? 19 : precision > 30 ? 30 : precision;
        this.scale = scale < 5 ? 5 : scale > 10 ? 10 : scale;
        this.mode = mode < 0 ? 0 : mode > 6 ? 6 : mode;
    }

    static boolean outside(int x, int low, int high) {
        return x < low || x > high;
    }

    static BigDecimal number(long n, int k) {
        return BigDecimal.valueOf(n, k);
    }

    /** A multiple of a step, or null when mode 7 refuses it; rounds by the floor, not by the absolute value. */
    static BigDecimal toStep(Fraction x, BigDecimal step, int mode) {
        Fraction steps = x.by(Fraction.of(step));
        BigInteger[] parts = steps.over().divideAndRemainder(steps.under());
        BigInteger floor = parts[1].signum() < 0 ? parts[0].subtract(BigInteger.ONE) : parts[0];
        BigInteger rest = steps.over().subtract(floor.multiply(steps.under()));
        if (rest.signum() == 0) {
            return step.multiply(new BigDecimal(floor));
        }
        boolean positive = x.over().signum() > 0;
        int half = rest.shiftLeft(1).compareTo(steps.under());
        boolean up;
        switch (mode) {
            case 0: up = positive; break;
            case 1: up = !positive; break;
            case 2: up = true; break;
            case 3: up = false; break;
            case 4: up = half > 0 || half == 0 && positive; break;
            case 5: up = half > 0 || half == 0 && !positive; break;
            case 6: up = half > 0 || half == 0 && floor.testBit(0); break;
            default: return null;
        }
        return step.multiply(new BigDecimal(up ? floor.add(BigInteger.ONE) : floor));
    }

    BigDecimal byContext(Fraction x) {
        BigInteger whole = x.over().abs().divide(x.under());
        int w = whole.signum() == 0 ? 0 : whole.toString().length();
        int s = Math.min(scale, precision - w);
        return toStep(x, BigDecimal.ONE.scaleByPowerOfTen(-s), mode);
    }

    static boolean inRange(boolean wide, BigDecimal value) {
        if (wide) {
            return value.abs().compareTo(BigDecimal.ONE.scaleByPowerOfTen(26)) < 0;
        }
        BigDecimal held = value.scaleByPowerOfTen(5);
        return held.stripTrailingZeros().scale() <= 0
            && held.compareTo(BigDecimal.valueOf(Long.MIN_VALUE)) >= 0
            && held.compareTo(BigDecimal.valueOf(Long.MAX_VALUE)) <= 0;
    }

    int store(int r, boolean wide, int currency, BigDecimal value) {
        if (!inRange(wide, value)) {
            return RANGE;
        }
        registers[r] = new Amount(currency, wide, value);
        return 0;
    }

    int keep(int r, boolean wide, int currency, Fraction x) {
        if (wide) {
            return store(r, true, currency, byContext(x));
        }
        BigDecimal held = toStep(x, new BigDecimal("0.00001"), 7);
        return held == null ? RANGE : store(r, false, currency, held);
    }

    int set(int r, boolean wide, int currency, long n, int k) {
        if (outside(r, 0, 7) || outside(currency, 0, 5) || outside(k, 0, 9)) {
            return BAD;
        }
        return keep(r, wide, currency, Fraction.of(number(n, k)));
    }

    int add(int r, int a, int b, boolean minus) {
        if (outside(r, 0, 7) || outside(a, 0, 7) || outside(b, 0, 7)) {
            return BAD;
        }
        Amount left = registers[a];
        Amount right = registers[b];
        if (left == null || right == null) {
            return NO_AMOUNT;
        }
        if (left.wide != right.wide || left.currency != right.currency) {
            return MISMATCH;
        }
        BigDecimal sum = minus ? left.value.subtract(right.value) : left.value.add(right.value);
        return keep(r, left.wide, left.currency, Fraction.of(sum));
    }

    int multiply(int r, int a, long n, int k) {
        if (outside(r, 0, 7) || outside(a, 0, 7) || outside(k, 0, 9)) {
            return BAD;
        }
        if (registers[a] == null) {
            return NO_AMOUNT;
        }
        Fraction product = Fraction.of(registers[a].value).times(Fraction.of(number(n, k)));
        return keep(r, registers[a].wide, registers[a].currency, product);
    }

    int divide(int r, int a, long n, int k) {
        if (outside(r, 0, 7) || outside(a, 0, 7) || outside(k, 0, 9)) {
            return BAD;
        }
        if (registers[a] == null) {
            return NO_AMOUNT;
        }
        if (n == 0) {
            return ZERO;
        }
        Fraction quotient = Fraction.of(registers[a].value).by(Fraction.of(number(n, k)));
        return keep(r, registers[a].wide, registers[a].currency, quotient);
    }

    int negate(int r, int a) {
        if (outside(r, 0, 7) || outside(a, 0, 7)) {
            return BAD;
        }
        if (registers[a] == null) {
            return NO_AMOUNT;
        }
        return store(r, registers[a].wide, registers[a].currency, registers[a].value.negate());
    }

    static BigDecimal unit(int currency) {
        return BigDecimal.ONE.scaleByPowerOfTen(-DIGITS[currency]);
    }

    int round(int r, int a, int by, boolean cash) {
        if (outside(r, 0, 7) || outside(a, 0, 7) || outside(by, 0, 7)) {
            return BAD;
        }
        Amount amount = registers[a];
        if (amount == null) {
            return NO_AMOUNT;
        }
        BigDecimal step = unit(amount.currency).multiply(BigDecimal.valueOf(cash ? CASH[amount.currency] : 1));
        BigDecimal rounded = toStep(Fraction.of(amount.value), step, by);
        return rounded == null ? INEXACT : store(r, amount.wide, amount.currency, rounded);
    }

    boolean ratio(int i, int w) {
        if (outside(i, 0, 7) || outside(w, 0, 1000000)) {
            return false;
        }
        ratios[i] = w;
        return true;
    }

    int allocate(int a, int to, int n) {
        if (outside(a, 0, 7) || outside(to, 0, 7) || outside(n, 1, 8 - to) || a >= to && a < to + n) {
            return BAD;
        }
        BigInteger sum = BigInteger.ZERO;
        for (int i = 0; i < n; i++) {
            sum = sum.add(BigInteger.valueOf(ratios[i]));
        }
        if (sum.signum() == 0) {
            return BAD;
        }
        if (registers[a] == null) {
            return NO_AMOUNT;
        }
        Amount amount = registers[a];
        BigDecimal units = amount.value.abs().divide(unit(amount.currency)).stripTrailingZeros();
        if (units.scale() > 0) {
            return INEXACT;
        }
        share(amount, to, n, units.toBigIntegerExact(), sum);
        return 0;
    }

    private void share(Amount amount, int to, int n, BigInteger m, BigInteger sum) {
        BigInteger[] parts = new BigInteger[n];
        BigInteger left = m;
        List<Integer> order = new ArrayList<>();
        BigInteger[] remainders = new BigInteger[n];
        for (int i = 0; i < n; i++) {
            BigInteger[] both = m.multiply(BigInteger.valueOf(ratios[i])).divideAndRemainder(sum);
            parts[i] = both[0];
            remainders[i] = both[1];
            left = left.subtract(both[0]);
            order.add(i);
        }
        order.sort((i, j) -> remainders[j].compareTo(remainders[i]));
        for (int i = 0; i < left.intValueExact(); i++) {
            parts[order.get(i)] = parts[order.get(i)].add(BigInteger.ONE);
        }
        for (int i = 0; i < n; i++) {
            BigInteger signed = amount.value.signum() < 0 ? parts[i].negate() : parts[i];
            registers[to + i] = new Amount(amount.currency, amount.wide, new BigDecimal(signed).multiply(unit(amount.currency)));
        }
    }

    int compare(int a, int b) {
        if (outside(a, 0, 7) || outside(b, 0, 7)) {
            return BAD;
        }
        if (registers[a] == null || registers[b] == null) {
            return NO_AMOUNT;
        }
        if (registers[a].wide != registers[b].wide || registers[a].currency != registers[b].currency) {
            return MISMATCH;
        }
        return registers[a].value.compareTo(registers[b].value);
    }

    int sign(int a) {
        return outside(a, 0, 7) ? BAD : registers[a] == null ? NO_AMOUNT : registers[a].value.signum();
    }

    int kind(int a) {
        return outside(a, 0, 7) ? BAD : registers[a] == null ? NO_AMOUNT : registers[a].currency + (registers[a].wide ? 8 : 0);
    }

    long digits(int a, int half) {
        if (outside(a, 0, 7) || outside(half, 0, 1)) {
            return BAD;
        }
        if (registers[a] == null) {
            return NO_AMOUNT;
        }
        BigInteger all = registers[a].value.abs().scaleByPowerOfTen(10).toBigIntegerExact();
        return all.divideAndRemainder(BigInteger.TEN.pow(18))[1 - half].longValueExact();
    }

    boolean discard(int r) {
        if (outside(r, 0, 7) || registers[r] == null) {
            return false;
        }
        registers[r] = null;
        return true;
    }

    int format(int a, int style) {
        if (outside(a, 0, 7) || outside(style, 0, 7)) {
            return BAD;
        }
        Amount amount = registers[a];
        if (amount == null) {
            return NO_AMOUNT;
        }
        BigDecimal rounded = toStep(Fraction.of(amount.value), unit(amount.currency), 6);
        String body = rounded.abs().setScale(DIGITS[amount.currency]).toPlainString();
        if ((style & 1) != 0) {
            int point = body.indexOf('.') < 0 ? body.length() : body.indexOf('.');
            for (int i = point - 3; i > 0; i -= 3) {
                body = body.substring(0, i) + "," + body.substring(i);
            }
        }
        if (rounded.signum() < 0) {
            body = (style & 4) != 0 ? "(" + body + ")" : "-" + body;
        }
        String code = code(amount.currency);
        text = (style & 2) != 0 ? body + " " + code : code + " " + body;
        return text.length();
    }

    static String code(int currency) {
        return String.valueOf((char) ('A' + currency)).repeat(3);
    }

    int type(int c) {
        if (outside(c, 32, 126) || text.length() >= 48) {
            return BAD;
        }
        text += (char) c;
        return text.length();
    }

    void wipe() {
        text = "";
    }

    int letter(int i) {
        return i >= 0 && i < text.length() ? text.charAt(i) : BAD;
    }

    private static final Pattern[] STYLES = new Pattern[8];
    private static final List<List<String>> ENDINGS = new ArrayList<>();

    static {
        for (int style = 0; style < 8; style++) {
            String whole = (style & 1) != 0 ? "[0-9]{1,3}(,[0-9]{3})*" : "[0-9]+";
            String body = whole + "(\\.[0-9]{1,10})?";
            String number = (style & 4) != 0 ? "(" + body + "|\\(" + body + "\\))" : "-?" + body;
            String code = "(AAA|BBB|CCC|DDD|EEE|FFF)";
            STYLES[style] = Pattern.compile((style & 2) != 0 ? number + " " + code : code + " " + number);
            ENDINGS.add(endings((style & 2) != 0));
        }
    }

    /** Every beginning of a text of a style becomes a text of it by one of these endings. */
    private static List<String> endings(boolean behind) {
        List<String> codes = new ArrayList<>(List.of(""));
        for (int c = 0; c < 6; c++) {
            for (int from = 0; from < 3; from++) {
                codes.add(code(c).substring(from));
            }
        }
        List<String> all = new ArrayList<>();
        for (String code : codes) {
            for (String blank : List.of("", " ")) {
                for (String digits : List.of("", "0", "00", "000")) {
                    for (String bracket : List.of("", ")")) {
                        all.add(behind ? digits + bracket + blank + code : code + blank + digits + bracket);
                    }
                }
            }
        }
        return all;
    }

    static boolean isBeginning(String start, int style) {
        for (String ending : ENDINGS.get(style)) {
            if (STYLES[style].matcher(start + ending).matches()) {
                return true;
            }
        }
        return false;
    }

    int parse(int r, boolean wide, int style) {
        if (outside(r, 0, 7) || outside(style, 0, 7)) {
            return BAD;
        }
        if (!STYLES[style].matcher(text).matches()) {
            int i = 0;
            while (i < text.length() && isBeginning(text.substring(0, i + 1), style)) {
                i++;
            }
            return -100 - i;
        }
        boolean behind = (style & 2) != 0;
        int blank = text.indexOf(' ');
        String code = behind ? text.substring(blank + 1) : text.substring(0, blank);
        String number = behind ? text.substring(0, blank) : text.substring(blank + 1);
        number = number.replace(",", "").replace("(", "-").replace(")", "");
        return keep(r, wide, code.charAt(0) - 'A', Fraction.of(new BigDecimal(number)));
    }
}
