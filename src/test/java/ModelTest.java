/** Runs of mixed calls beside the model: every answer, and what can be asked for afterwards. */
public final class ModelTest {
    private static final int OBJECTS = 4000;
    private static final int CALLS = 512;
    private static final String LETTERS = "0123456789,.-() ABCDEFG";

    private final TwofoldAmounts x;
    private final Model y;
    private final int run;
    private long seed;
    private int calls = 0;

    private ModelTest(int run) {
        this.run = run;
        seed = run * 7919L + 17;
        int precision = below(4) == 0 ? below(60) - 10 : 19 + below(12);
        int scale = below(4) == 0 ? below(30) - 8 : 5 + below(6);
        int mode = below(8) == 0 ? below(20) - 8 : below(7);
        x = new TwofoldAmounts(precision, scale, mode);
        y = new Model(precision, scale, mode);
    }

    public static void main(String[] args) {
        for (int run = 0; run < OBJECTS; run++) {
            new ModelTest(run).go();
        }
        Checks.done();
    }

    /** Leaves room for the longest step and for the last look, which asks for everything. */
    private void go() {
        for (int i = 0; i < CALLS && calls < CALLS - 150; i++) {
            step();
            look(below(8));
        }
        for (int r = 0; r < 8; r++) {
            look(r);
        }
        for (int i = -1; i <= y.text.length(); i++) {
            due("letter " + i, x.letter(i), y.letter(i));
        }
        Checks.due("run " + run + " keeps to 512 calls", calls <= CALLS, true);
    }

    private void due(String call, long got, long want) {
        calls++;
        Checks.due("run " + run + ", call " + calls + ": " + call, got, want);
    }

    private void due(String call, boolean got, boolean want) {
        due(call, got ? 1 : 0, want ? 1 : 0);
    }

    private void look(int r) {
        due("kind " + r, x.kind(r), y.kind(r));
        due("sign " + r, x.sign(r), y.sign(r));
        due("digits " + r + " 0", x.digits(r, 0), y.digits(r, 0));
        due("digits " + r + " 1", x.digits(r, 1), y.digits(r, 1));
    }

    /** A plain linear generator: the same numbers whenever the test runs. */
    private int below(int bound) {
        seed = seed * 6364136223846793005L + 1442695040888963407L;
        return (int) ((seed >>> 33) % bound);
    }

    /** From 0 to last, but now and then one too few or one too many. */
    private int upTo(int last) {
        return below(60) == 0 ? below(2) * (last + 2) - 1 : below(last + 1);
    }

    private static long ten(int power) {
        long value = 1;
        for (int i = 0; i < power; i++) {
            value *= 10;
        }
        return value;
    }

    private long number() {
        long random = ((long) below(1 << 30) << 34) ^ ((long) below(1 << 30) << 15) ^ below(1 << 15);
        switch (below(9)) {
            case 0: return below(21) - 10;
            case 1: return ten(below(19)) * (below(2) * 2 - 1);
            case 2: return ten(below(19)) + below(3) - 1;
            case 3: return ten(below(18)) * 5 * (below(2) * 2 - 1);
            case 4: return below(2) == 0 ? Long.MAX_VALUE - below(3) : Long.MIN_VALUE + below(3);
            case 5: return random;
            case 6: return random / ten(below(19));
            case 7: return (below(2001) - 1000) * ten(below(10));
            default: return below(2000000) - 1000000;
        }
    }

    private void step() {
        switch (below(12)) {
            case 0: case 1: set(); break;
            case 2: case 3: sum(); break;
            case 4: product(); break;
            case 5: quotient(); break;
            case 6: round(); break;
            case 7: allocate(); break;
            case 8: questions(); break;
            case 9: small(); break;
            case 10: writeAndRead(); break;
            default: typeAndRead(); break;
        }
    }

    private void set() {
        int r = upTo(7);
        boolean wide = below(3) != 0;
        int currency = below(3) == 0 ? upTo(5) : run % 6;
        long n = number();
        int k = upTo(9);
        due("set " + r + " " + wide + " " + currency + " " + n + " " + k, x.set(r, wide, currency, n, k), y.set(r, wide, currency, n, k));
    }

    private void sum() {
        int r = upTo(7);
        int a = upTo(7);
        int b = upTo(7);
        if (below(2) == 0) {
            due("add " + r + " " + a + " " + b, x.add(r, a, b), y.add(r, a, b, false));
        } else {
            due("subtract " + r + " " + a + " " + b, x.subtract(r, a, b), y.add(r, a, b, true));
        }
    }

    private void product() {
        int r = upTo(7);
        int a = upTo(7);
        long n = number();
        int k = upTo(9);
        due("multiply " + r + " " + a + " " + n + " " + k, x.multiply(r, a, n, k), y.multiply(r, a, n, k));
    }

    private void quotient() {
        int r = upTo(7);
        int a = upTo(7);
        long n = number();
        int k = upTo(9);
        due("divide " + r + " " + a + " " + n + " " + k, x.divide(r, a, n, k), y.divide(r, a, n, k));
    }

    private void round() {
        int r = upTo(7);
        int a = upTo(7);
        int mode = upTo(7);
        boolean cash = below(2) == 0;
        due("round " + r + " " + a + " " + mode + " " + cash, x.round(r, a, mode, cash), y.round(r, a, mode, cash));
    }

    private void allocate() {
        for (int i = below(4); i > 0; i--) {
            int number = upTo(7);
            int weight = below(3) == 0 ? upTo(1000000) : below(6);
            due("ratio " + number + " " + weight, x.ratio(number, weight), y.ratio(number, weight));
        }
        int a = upTo(7);
        if (below(3) != 0) {
            int mode = below(7);
            due("round " + a, x.round(a, a, mode, false), y.round(a, a, mode, false));
        }
        int to = upTo(7);
        int n = upTo(8);
        due("allocate " + a + " " + to + " " + n, x.allocate(a, to, n), y.allocate(a, to, n));
        look(Math.max(0, Math.min(7, to + below(3))));
    }

    private void questions() {
        int a = upTo(7);
        int b = upTo(7);
        int half = upTo(1);
        due("compare " + a + " " + b, x.compare(a, b), y.compare(a, b));
        due("sign " + a, x.sign(a), y.sign(a));
        due("kind " + b, x.kind(b), y.kind(b));
        due("digits " + a + " " + half, x.digits(a, half), y.digits(a, half));
    }

    private void small() {
        int r = upTo(7);
        int a = upTo(7);
        if (below(3) == 0) {
            due("discard " + r, x.discard(r), y.discard(r));
        } else {
            due("negate " + r + " " + a, x.negate(r, a), y.negate(r, a));
        }
    }

    private void writeAndRead() {
        int a = upTo(7);
        int style = upTo(7);
        due("format " + a + " " + style, x.format(a, style), y.format(a, style));
        for (int i = 0; i < 6; i++) {
            int at = upTo(Math.max(0, y.text.length() - 1));
            due("letter " + at, x.letter(at), y.letter(at));
        }
        read(below(4) == 0 ? upTo(7) : style);
    }

    /** Types a few characters that may or may not belong there behind the text, or a new text. */
    private void typeAndRead() {
        if (below(3) != 0) {
            x.wipe();
            y.wipe();
            calls++;
        }
        int style = below(8);
        String code = Model.code(below(6));
        String number = digits(below(12)) + (below(2) == 0 ? "." + digits(below(12)) : "");
        String text = (style & 2) != 0 ? number + " " + code : code + " " + number;
        for (int i = 0; i < text.length(); i++) {
            int c = below(50) == 0 ? LETTERS.charAt(below(LETTERS.length())) : text.charAt(i);
            due("type " + c, x.type(c), y.type(c));
        }
        int odd = below(8) == 0 ? below(4) * 48 - 17 : 'A' + below(6);
        due("type " + odd, x.type(odd), y.type(odd));
        read(style);
    }

    private String digits(int count) {
        StringBuilder all = new StringBuilder();
        for (int i = 0; i <= count; i++) {
            all.append((char) ('0' + below(10)));
        }
        return all.toString();
    }

    private void read(int style) {
        int r = upTo(7);
        boolean wide = below(3) != 0;
        due("parse " + r + " " + wide + " " + style + " of '" + y.text + "'", x.parse(r, wide, style), y.parse(r, wide, style));
        look(below(8));
    }
}
