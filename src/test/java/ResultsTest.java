/** Promises 14 to 18: RESULTS, FAILURES and their CAUSES. */
public final class ResultsTest {
    public static void main(String[] args) {
        BuildEngine x = new BuildEngine();
        x.give(0, -1);
        Check.ruled(x, 8, "+00");
        Check.ruled(x, 9, "=01+05");
        Check.ruled(x, 10, "=01=01+09");
        Check.ruled(x, 11, "+10");
        Check.ruled(x, 12, "=04/13");
        Check.ruled(x, 13, "=00");
        Check.ruled(x, 14, "&12");
        x.some(Check.set(8, 9, 10, 11, 12, 13, 14, 15), 0);
        result(x);
        failure(x);
        causesAndRoot(x);
        blamed(x);
        longChain();
        Check.end();
    }

    private static void result(BuildEngine x) {
        Check.part("14 result");
        Check.due("result(0)", x.result(0), -1);
        Check.due("result(5)", x.result(5), Check.NO_RESULT + Check.EMPTY);
        Check.due("result(8)", x.result(8), -1);
        Check.due("result(9)", x.result(9), Check.NO_RESULT + Check.NEEDS);
        Check.due("result(12)", x.result(12), Check.NO_RESULT + Check.NOUGHT);
        Check.due("result(15)", x.result(15), Check.NO_RESULT + Check.EMPTY);
        Check.due("result(16)", x.result(16), Check.NO_RESULT);
        Check.due("result(24)", x.result(24), BuildEngine.NONE);
        Check.due("result(-1)", x.result(-1), BuildEngine.NONE);
        Check.due("result(MIN)", x.result(Integer.MIN_VALUE), BuildEngine.NONE);
    }

    private static void failure(BuildEngine x) {
        Check.part("15 failure");
        int[][] chain = {{11, Check.NEEDS, 0}, {10, Check.NEEDS, 2}, {9, Check.NEEDS, 1}, {5, Check.EMPTY, -1}};
        for (int i = 0; i < chain.length; i++) {
            for (int what = 0; what < 3; what++) {
                Check.due("failure(11, " + i + ", " + what + ")", x.failure(11, i, what), chain[i][what]);
            }
        }
        Check.due("failure(11, 4, 0)", x.failure(11, 4, 0), BuildEngine.STATE);
        Check.due("failure(11, MAX, 0)", x.failure(11, Integer.MAX_VALUE, 0), BuildEngine.STATE);
        Check.due("failure(11, -1, 0)", x.failure(11, -1, 0), BuildEngine.STATE);
        Check.due("failure(8, 0, 0)", x.failure(8, 0, 0), BuildEngine.STATE);
        Check.due("failure(16, 0, 0)", x.failure(16, 0, 0), BuildEngine.STATE);
        Check.due("failure(16, 0, 3)", x.failure(16, 0, 3), BuildEngine.NONE);
        Check.due("failure(11, 0, -1)", x.failure(11, 0, -1), BuildEngine.NONE);
        Check.due("failure(11, 9, 3)", x.failure(11, 9, 3), BuildEngine.NONE);
        Check.due("failure(5, 0, 0)", x.failure(5, 0, 0), BuildEngine.NONE);
        Check.due("failure(24, 0, 0)", x.failure(24, 0, 0), BuildEngine.NONE);
        Check.due("failure(15, 0, 0)", x.failure(15, 0, 0), 15);
        Check.due("failure(15, 0, 2)", x.failure(15, 0, 2), -1);
        Check.due("failure(14, 1, 2)", x.failure(14, 1, 2), 1);
    }

    private static void causesAndRoot(BuildEngine x) {
        Check.part("16 causes, 17 root");
        int[] keys = {8, 9, 10, 11, 12, 13, 14, 15, 16};
        int[] causes = {-5, 1, 2, 3, 0, -5, 1, 0, -5};
        int[] roots = {-5, 5, 5, 5, 12, -5, 12, 15, -5};
        for (int i = 0; i < keys.length; i++) {
            Check.due("causes(" + keys[i] + ")", x.causes(keys[i]), causes[i]);
            Check.due("root(" + keys[i] + ")", x.root(keys[i]), roots[i]);
        }
        for (int key : new int[] {-1, 0, 5, 7, 24}) {
            Check.due("causes(" + key + ")", x.causes(key), BuildEngine.NONE);
            Check.due("root(" + key + ")", x.root(key), BuildEngine.NONE);
        }
    }

    private static void blamed(BuildEngine x) {
        Check.part("18 blamed");
        Check.due("blamed(5)", x.blamed(5), Check.set(9, 10, 11));
        Check.due("blamed(9)", x.blamed(9), Check.set(9, 10, 11));
        Check.due("blamed(10)", x.blamed(10), Check.set(10, 11));
        Check.due("blamed(11)", x.blamed(11), Check.set(11));
        Check.due("blamed(12)", x.blamed(12), Check.set(12, 14));
        Check.due("blamed(13)", x.blamed(13), 0);
        Check.due("blamed(0)", x.blamed(0), 0);
        Check.due("blamed(15)", x.blamed(15), Check.set(15));
        Check.due("blamed(24)", x.blamed(24), BuildEngine.NONE);
        Check.due("blamed(-1)", x.blamed(-1), BuildEngine.NONE);
        x.give(5, 5);
        Check.due("what fails isn't looked through anew", x.blamed(5), Check.set(9, 10, 11));
    }

    /** All 16 TARGETS, each needing the next, the last an INPUT. */
    private static void longChain() {
        Check.part("16 the longest row of CAUSES");
        BuildEngine x = new BuildEngine();
        for (int key = 8; key < 23; key++) {
            Check.ruled(x, key, "+" + (key + 1 < 10 ? "0" : "") + (key + 1));
        }
        Check.ruled(x, 23, "+07");
        Check.due("build(8)", x.build(8), 31);
        Check.due("causes(8)", x.causes(8), 16);
        Check.due("root(8)", x.root(8), 7);
        Check.due("failure(8, 16, 0)", x.failure(8, 16, 0), 7);
        Check.due("failure(8, 17, 0)", x.failure(8, 17, 0), BuildEngine.STATE);
        Check.due("blamed(7)", x.blamed(7), 65535);
        Check.due("depth(8)", x.depth(8), 16);
        Check.due("build(8) again", x.build(8), 0);
        x.give(7, 1);
        Check.due("build(8) with a CONTENT", x.build(8), 16);
        Check.due("result(8)", x.result(8), 1);
        Check.ruled(x, 23, "+08");
        x.give(7, 2);
        Check.due("build(8) as a ring", x.build(8), 16);
        Check.due("causes(8)", x.causes(8), 15);
        Check.due("root(8)", x.root(8), 23);
        Check.due("told(7)", x.told(7), 0);
    }
}
