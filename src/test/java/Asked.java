/** Ways to ask an object for a whole amount or a whole text, and to type one. */
final class Asked {
    private Asked() {
    }

    /** The value of a register as a decimal without needless zeros, or the refusal. */
    static String value(TwofoldAmounts x, int r) {
        int sign = x.sign(r);
        if (sign < -1) {
            return "refused " + sign;
        }
        String all = String.format("%018d%018d", x.digits(r, 1), x.digits(r, 0));
        String plain = new java.math.BigDecimal(all).movePointLeft(10).stripTrailingZeros().toPlainString();
        return (sign < 0 ? "-" : sign == 0 && !plain.equals("0") ? "no sign but " : "") + plain;
    }

    static String text(TwofoldAmounts x) {
        StringBuilder all = new StringBuilder();
        for (int i = 0; i < 60; i++) {
            int c = x.letter(i);
            if (c == TwofoldAmounts.BAD) {
                break;
            }
            all.append((char) c);
        }
        return all.toString();
    }

    /** Puts a number, of more digits than set can take, into a register by way of the text. */
    static void put(TwofoldAmounts x, int r, boolean wide, String codeAndNumber) {
        type(x, codeAndNumber);
        Checks.due("parse " + codeAndNumber, x.parse(r, wide, 0), 0);
        x.wipe();
    }

    static void type(TwofoldAmounts x, String text) {
        x.wipe();
        for (int i = 0; i < text.length(); i++) {
            Checks.due("type of '" + text + "'", x.type(text.charAt(i)), i + 1);
        }
    }
}
