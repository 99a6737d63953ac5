/** What parse answers to many texts of all styles, whole, cut off and spoilt, beside the model. */
public final class TextTest {
    private static final int TEXTS = 60000;
    private static final String LETTERS = "0123456789,.-() ABCDEFGa~";
    private static long seed = 4711;

    public static void main(String[] args) {
        for (int i = 0; i < TEXTS; i++) {
            int style = below(8);
            String text = spoilt(text(style));
            compare(text.substring(0, Math.min(48, text.length())), below(6) == 0 ? below(8) : style);
        }
        Checks.done();
    }

    private static int below(int bound) {
        seed = seed * 6364136223846793005L + 1442695040888963407L;
        return (int) ((seed >>> 33) % bound);
    }

    private static void compare(String text, int style) {
        boolean wide = below(3) != 0;
        int precision = 19 + below(12);
        int scale = 5 + below(6);
        int mode = below(7);
        TwofoldAmounts x = new TwofoldAmounts(precision, scale, mode);
        Model y = new Model(precision, scale, mode);
        Asked.type(x, text);
        y.text = text;
        String call = "parse " + wide + " " + style + " of '" + text + "'";
        Checks.due(call, x.parse(3, wide, style), y.parse(3, wide, style));
        Checks.due(call + " kind", x.kind(3), y.kind(3));
        Checks.due(call + " sign", x.sign(3), y.sign(3));
        Checks.due(call + " low digits", x.digits(3, 0), y.digits(3, 0));
        Checks.due(call + " high digits", x.digits(3, 1), y.digits(3, 1));
        Checks.due(call + " text", Asked.text(x), text);
    }

    private static String digits(int count) {
        StringBuilder all = new StringBuilder();
        int always = below(4) == 0 ? below(2) * 9 : -1;
        for (int i = 0; i < count; i++) {
            all.append((char) ('0' + (always >= 0 ? always : below(10))));
        }
        return all.toString();
    }

    private static String text(int style) {
        StringBuilder body = new StringBuilder();
        if ((style & 1) != 0) {
            body.append(digits(1 + below(3)));
            for (int i = below(10); i > 0; i--) {
                body.append(',').append(digits(3));
            }
        } else {
            body.append(digits(1 + (below(8) == 0 ? below(44) : below(28))));
        }
        if (below(3) != 0) {
            body.append('.').append(digits(1 + below(10)));
        }
        String number = body.toString();
        if (below(2) == 0) {
            number = (style & 4) != 0 ? "(" + number + ")" : "-" + number;
        }
        String code = Model.code(below(6));
        return (style & 2) != 0 ? number + " " + code : code + " " + number;
    }

    private static String spoilt(String text) {
        int at = below(text.length());
        char c = LETTERS.charAt(below(LETTERS.length()));
        switch (below(6)) {
            case 0: return text.substring(0, at);
            case 1: return text.substring(0, at) + c + text.substring(at);
            case 2: return text.substring(0, at) + c + text.substring(at + 1);
            case 3: return text.substring(0, at) + text.substring(at + 1);
            default: return text;
        }
    }
}
