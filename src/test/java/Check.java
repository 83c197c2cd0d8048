/** What the tests share: it counts the calls whose answer is not the one that is due. */
final class Check {
    static final int NO_RESULT = 10000000;
    static final int RING = 1, NOUGHT = 2, OVER = 3, TOLD = 4, NEEDS = 5, EMPTY = 6;
    static final int NOT_SO = -5, NOTHING = -11, BEYOND = -13, BELOW = -14;

    private static int wrong = 0;
    private static int looked = 0;
    private static String part = "";

    private Check() {
    }

    static void part(String name) {
        part = name;
    }

    static void due(String call, long got, long want) {
        looked++;
        if (got != want) {
            wrong++;
            System.out.println(part + ": " + call + " answered " + got + ", due is " + want);
        }
    }

    static void isTrue(String what, boolean so) {
        due(what, so ? 1 : 0, 1);
    }

    /** Feeds a text. */
    static void text(BuildEngine x, String text) {
        for (int i = 0; i < text.length(); i++) {
            x.feed(text.charAt(i));
        }
    }

    /** Gives a TARGET the RULE that a text tells: what rule() answered. */
    static int rule(BuildEngine x, int key, String text) {
        text(x, text);
        return x.rule(key);
    }

    /** Gives a TARGET a RULE that must be without FAULT. */
    static void ruled(BuildEngine x, int key, String text) {
        due("rule(" + key + ") of " + text, rule(x, key, text), text.length() / 3);
    }

    /** A KEY as a RULE's text tells it: two figures. */
    static String two(int n) {
        return "" + (char) ('0' + n / 10) + (char) ('0' + n % 10);
    }

    /** The bits of TARGETS. */
    static int set(int... keys) {
        int bits = 0;
        for (int key : keys) {
            bits |= 1 << (key - 8);
        }
        return bits;
    }

    static void end() {
        System.out.println(wrong == 0 ? looked + " answers are as due" : wrong + " of " + looked + " answers are not as due");
        if (wrong != 0) {
            System.exit(1);
        }
    }
}
