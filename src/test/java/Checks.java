/** Counts the answers that are not as due; each test ends with done(). */
final class Checks {
    private static int wrong = 0;
    private static int asked = 0;
    private static String sentence = "";

    private Checks() {
    }

    /** The sentence of the document that the next answers belong to, to be told with a wrong one. */
    static void sentence(String words) {
        sentence = "[" + words + "] ";
    }

    static void due(String call, long got, long want) {
        asked++;
        if (got != want) {
            wrong++;
            if (wrong <= 50) {
                System.out.println(sentence + call + " answered " + got + ", due is " + want);
            }
        }
    }

    static void due(String call, boolean got, boolean want) {
        due(call, got ? 1L : 0L, want ? 1L : 0L);
    }

    static void due(String call, String got, String want) {
        due(call + " '" + got + "', due is '" + want + "':", got.equals(want), true);
    }

    static void done() {
        System.out.println(asked + " answers, " + wrong + " not as due");
        if (wrong != 0) {
            System.exit(1);
        }
    }
}
