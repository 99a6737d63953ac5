/** An object that has something in every part of its state, and all that can be asked of it. */
final class Filled {
    static final int GREATEST = 0;
    static final int LEAST = 1;
    static final int WIDEST = 2;
    static final int WIDEST_BELOW = 3;
    static final int PLAIN = 4;
    static final int PLAIN_WIDE = 5;
    static final int DISCARDED = 6;
    static final int NEVER_HELD = 7;

    private Filled() {
    }

    static TwofoldAmounts object() {
        TwofoldAmounts x = new TwofoldAmounts(30, 10, 6);
        x.set(GREATEST, false, 0, Long.MAX_VALUE, 5);
        x.set(LEAST, false, 0, Long.MIN_VALUE, 5);
        Asked.put(x, WIDEST, true, "AAA 99999999999999999999999999.9999");
        Asked.put(x, WIDEST_BELOW, true, "BBB -99999999999999999999999999.5");
        x.set(PLAIN, false, 4, 7, 0);
        x.set(PLAIN_WIDE, true, 0, 1, 0);
        x.set(DISCARDED, true, 5, 12345, 2);
        x.discard(DISCARDED);
        for (int i = 0; i < 8; i++) {
            x.ratio(i, i + 1);
        }
        Asked.type(x, "AAA 1.5x");
        return x;
    }

    /** Everything but the ratios, which no call tells without a change. */
    static String state(TwofoldAmounts x) {
        StringBuilder all = new StringBuilder();
        for (int r = 0; r < 8; r++) {
            all.append(x.kind(r)).append(':').append(Asked.value(x, r)).append(' ');
        }
        return all.append(Asked.text(x)).toString();
    }

    /** The ratios 0 .. 6, told by what allocate makes of 28 units; this replaces all registers. */
    static String ratios(TwofoldAmounts x) {
        x.set(7, false, 1, 28, 0);
        StringBuilder all = new StringBuilder();
        all.append(x.allocate(7, 0, 7));
        for (int r = 0; r < 7; r++) {
            all.append(' ').append(Asked.value(x, r));
        }
        return all.toString();
    }
}
