/** Terms, part 3, and promises 14 to 26: what is looked at, from the first to the last, with none and with all. */
public final class EdgesOfLooksTest {
    public static void main(String[] args) {
        results();
        failures();
        longestRowOfCauses();
        causesAndRoots();
        blamed();
        traces();
        seen();
        users();
        depths();
        deepest();
        orders();
        unlikes();
        unlikeFailures();
        fresh();
        freshFailures();
        forget();
        Check.end();
    }

    private static void results() {
        Check.part("14 result: its number; 10000000 and the SORT of a FAILURE; 10000000: it has none");
        BuildEngine x = new BuildEngine();
        x.give(0, 1000000);
        x.give(1, -1000000);
        String[] rules = {"+00", "+01", "=00", "+11", "%00", "+00+00", "=01!00", "+07", ""};
        int[] dues = {1000000, -1000000, 0, 10000001, 10000002, 10000003, 10000004, 10000005, 10000006};
        for (int i = 0; i < rules.length; i++) {
            Check.rule(x, 8 + i, rules[i]);
            Check.due("ahead of a BUILD", x.result(8 + i), 10000000);
            x.build(8 + i);
            Check.due("behind it", x.result(8 + i), dues[i]);
            x.forget(8 + i);
            Check.due("forgotten", x.result(8 + i), 10000000);
        }
        Check.due("an INPUT", x.result(0), 1000000);
        Check.due("an INPUT", x.result(1), -1000000);
        Check.due("an INPUT that has none", x.result(7), 10000006);
        x.give(7, 0);
        Check.due("an INPUT of 0", x.result(7), 0);
        x.take(7);
        Check.due("an INPUT that is taken", x.result(7), 10000006);
    }

    private static void failures() {
        Check.part("15 failure: i 0, 1, 2, ..; what 0 .. 2; STATE: it has no such");
        BuildEngine x = new BuildEngine();
        Check.ruled(x, 8, "=01=01+09");
        Check.ruled(x, 9, "=01+07");
        Check.ruled(x, 10, "=05");
        x.some(Check.set(8, 9, 10, 11), 0);
        int[][] rows = {{8, Check.NEEDS, 2}, {9, Check.NEEDS, 1}, {7, Check.EMPTY, -1}};
        for (int what = -2; what < 5; what++) {
            boolean there = what >= 0 && what <= 2;
            for (int i = 0; i < 3; i++) {
                Check.due("failure(8, " + i + ", " + what + ")", x.failure(8, i, what),
                    there ? rows[i][what] : BuildEngine.NONE);
            }
            for (int i : new int[] {Integer.MIN_VALUE, -2, -1, 3, 4, Integer.MAX_VALUE}) {
                int due = there ? BuildEngine.STATE : BuildEngine.NONE;
                Check.due("failure(8, " + i + ", " + what + ")", x.failure(8, i, what), due);
                Check.due("of a CONTENT", x.failure(10, i, what), due);
                Check.due("of no RESULT", x.failure(12, i, what), due);
            }
        }
        int[] empty = {11, Check.EMPTY, -1};
        for (int what = 0; what < 3; what++) {
            Check.due("of a CONTENT", x.failure(10, 0, what), BuildEngine.STATE);
            Check.due("of no RESULT", x.failure(12, 0, what), BuildEngine.STATE);
            Check.due("of EMPTY", x.failure(11, 0, what), empty[what]);
            Check.due("it has no CAUSE", x.failure(11, 1, what), BuildEngine.STATE);
        }
        Check.due("what MIN", x.failure(8, 0, Integer.MIN_VALUE), BuildEngine.NONE);
        Check.due("what MAX", x.failure(8, 0, Integer.MAX_VALUE), BuildEngine.NONE);
        x.forget(8);
        Check.due("of one forgotten", x.failure(8, 0, 0), BuildEngine.STATE);
    }

    /** 23 needs 22, .. 9 needs 8, 8 needs an INPUT: 16 CAUSES behind the FAILURE of 23. */
    private static BuildEngine row(String first) {
        BuildEngine x = new BuildEngine();
        Check.ruled(x, 8, first);
        for (int key = 9; key < 24; key++) {
            Check.ruled(x, key, "=01+" + Check.two(key - 1));
        }
        x.all(0);
        return x;
    }

    private static void longestRowOfCauses() {
        Check.part("15 failure, 16 causes, 17 root: of the longest row of CAUSES");
        BuildEngine x = row("+00");
        Check.due("causes(23)", x.causes(23), 16);
        Check.due("root(23)", x.root(23), 0);
        for (int i = 0; i < 16; i++) {
            Check.due("KEY " + i, x.failure(23, i, 0), 23 - i);
            Check.due("SORT " + i, x.failure(23, i, 1), Check.NEEDS);
            Check.due("STEP " + i, x.failure(23, i, 2), i < 15 ? 1 : 0);
        }
        Check.due("the last KEY", x.failure(23, 16, 0), 0);
        Check.due("the last SORT", x.failure(23, 16, 1), Check.EMPTY);
        Check.due("the last STEP", x.failure(23, 16, 2), -1);
        Check.due("none behind it", x.failure(23, 17, 0), BuildEngine.STATE);
    }

    private static void causesAndRoots() {
        Check.part("16 causes: how many; -5: it has no FAILURE. 17 root: itself, if it has none");
        BuildEngine empty = row("+00");
        BuildEngine nought = row("%00");
        BuildEngine ring = row("+08");
        BuildEngine fine = row("=00");
        for (int key = 8; key < 24; key++) {
            Check.due("behind EMPTY: causes(" + key + ")", empty.causes(key), key - 7);
            Check.due("root(" + key + ")", empty.root(key), 0);
            Check.due("behind NOUGHT: causes(" + key + ")", nought.causes(key), key - 8);
            Check.due("root(" + key + ")", nought.root(key), 8);
            Check.due("behind RING: causes(" + key + ")", ring.causes(key), key - 8);
            Check.due("root(" + key + ")", ring.root(key), 8);
            Check.due("without a FAILURE: causes(" + key + ")", fine.causes(key), Check.NOT_SO);
            Check.due("root(" + key + ")", fine.root(key), Check.NOT_SO);
            Check.due("without a RESULT: causes(" + key + ")", new BuildEngine().causes(key), Check.NOT_SO);
            Check.due("root(" + key + ")", new BuildEngine().root(key), Check.NOT_SO);
        }
        for (int key = 0; key < 8; key++) {
            Check.due("an INPUT, EMPTY: causes(" + key + ")", empty.causes(key), BuildEngine.NONE);
            Check.due("root(" + key + ")", empty.root(key), BuildEngine.NONE);
        }
    }

    private static void blamed() {
        Check.part("18 blamed: a KEY among it and its CAUSES");
        BuildEngine x = row("+00");
        Check.due("the last CAUSE of all", x.blamed(0), 65535);
        for (int key = 8; key < 24; key++) {
            Check.due("blamed(" + key + ")", x.blamed(key), 65535 & -1 << (key - 8));
        }
        for (int key = 1; key < 8; key++) {
            Check.due("of none", x.blamed(key), 0);
        }
        x.forget(23);
        Check.due("but for one forgotten", x.blamed(0), 32767);
        x.give(0, 1);
        Check.due("as they were BUILT", x.blamed(0), 32767);
        x.all(0);
        Check.due("when all have CONTENTS", x.blamed(0), 0);
        Check.due("when all have CONTENTS", x.blamed(8), 0);
        Check.due("at first", new BuildEngine().blamed(0), 0);
        Check.due("at first", new BuildEngine().blamed(23), 0);
    }

    /** 8 has a TRACE of as many KEYS as told: 0, 1, .., then 9, 10, .. */
    private static BuildEngine traced(int keys) {
        BuildEngine x = new BuildEngine();
        String rule = keys == 0 ? "=00" : "";
        for (int i = 0; i < keys; i++) {
            rule += "+" + Check.two(tracedKey(i));
        }
        for (int key = 0; key < 8; key++) {
            x.give(key, key * key);
        }
        for (int key = 9; key < 13; key++) {
            Check.ruled(x, key, "=" + Check.two(key * 2));
        }
        Check.ruled(x, 8, rule);
        x.build(8);
        return x;
    }

    private static int tracedKey(int i) {
        return i < 8 ? i : i + 1;
    }

    private static void traces() {
        Check.part("19 trace: the i-th KEY; i -1: how many; NONE: i is below -1; NONE: there is no such KEY");
        for (int keys = 0; keys <= 12; keys++) {
            BuildEngine x = traced(keys);
            Check.due("i -1", x.trace(8, -1), keys);
            for (int i = 0; i < keys; i++) {
                Check.due("i " + i + " of " + keys, x.trace(8, i), tracedKey(i));
            }
            for (int i : new int[] {keys, keys + 1, 12, 13, Integer.MAX_VALUE, -2, -3, Integer.MIN_VALUE}) {
                Check.due("i " + i + " of " + keys, x.trace(8, i), BuildEngine.NONE);
            }
            x.forget(8);
            for (int i : new int[] {-1, 0, keys, 12, Integer.MAX_VALUE}) {
                Check.due("no TRACE, i " + i, x.trace(8, i), BuildEngine.STATE);
            }
            Check.due("no TRACE, i -2", x.trace(8, -2), BuildEngine.NONE);
        }
        BuildEngine x = traced(12);
        Check.ruled(x, 8, "+03");
        x.build(8);
        Check.due("a shorter one", x.trace(8, -1), 1);
        Check.due("a shorter one", x.trace(8, 0), 3);
        Check.due("nothing of the longer one", x.trace(8, 1), BuildEngine.NONE);
        Check.due("nothing of the longer one", x.seen(8, 1), BuildEngine.NONE);
        Check.due("nothing of the longer one", x.users(0), 0);
    }

    private static void seen() {
        Check.part("20 seen: NONE: i is below 0; STATE, NONE likewise");
        for (int keys = 0; keys <= 12; keys++) {
            BuildEngine x = traced(keys);
            for (int i = 0; i < keys; i++) {
                Check.due("i " + i + " of " + keys, x.seen(8, i), i < 8 ? i * i : 2 * (i + 1));
            }
            for (int i : new int[] {keys, keys + 1, 12, 13, Integer.MAX_VALUE, -1, -2, Integer.MIN_VALUE}) {
                Check.due("i " + i + " of " + keys, x.seen(8, i), BuildEngine.NONE);
            }
            x.give(0, 77);
            x.forget(9);
            for (int i = 0; i < keys; i++) {
                Check.due("what it saw stays", x.seen(8, i), i < 8 ? i * i : 2 * (i + 1));
            }
            x.drop(8);
            for (int i : new int[] {0, keys, 12, Integer.MAX_VALUE}) {
                Check.due("no TRACE, i " + i, x.seen(8, i), BuildEngine.STATE);
            }
            Check.due("no TRACE, i -1", x.seen(8, -1), BuildEngine.NONE);
        }
        Check.part("20 seen: as result() would tell it");
        BuildEngine x = new BuildEngine();
        String[] rules = {"%00", "+00+00", "=01!00", "+07", "?00"};
        int[] dues = {10000002, 10000003, 10000004, 10000005, 10000006};
        x.give(0, 1000000);
        for (int i = 0; i < 5; i++) {
            if (i < 4) {
                Check.ruled(x, 9 + i, rules[i]);
            }
            Check.ruled(x, 8, "+00-00+" + Check.two(9 + i));
            x.build(8);
            Check.due("a FAILURE", x.seen(8, 1), dues[i]);
            Check.due("a number", x.seen(8, 0), 1000000);
        }
    }

    private static void users() {
        Check.part("21 users: the TARGETS in whose TRACES a KEY is");
        BuildEngine x = new BuildEngine();
        for (int key = 0; key < 24; key++) {
            Check.due("at first", x.users(key), 0);
        }
        x = row("+00");
        Check.due("users(0)", x.users(0), 1);
        for (int key = 8; key < 24; key++) {
            Check.due("users(" + key + ")", x.users(key), key == 23 ? 0 : 1 << (key - 7));
        }
        x = new BuildEngine();
        for (int key = 8; key < 24; key++) {
            Check.ruled(x, key, "=01+07");
        }
        x.all(0);
        Check.due("all, though they fail", x.users(7), 65535);
        x.drop(8);
        Check.due("but the first", x.users(7), 65534);
        x.forget(23);
        Check.due("but the last", x.users(7), 32766);
        Check.due("the first INPUT, of none", x.users(0), 0);
    }

    private static void depths() {
        Check.part("22 depth: 0 of an INPUT, of a TARGET without a TRACE; 1 more than the greatest (0 if it has none)");
        BuildEngine x = new BuildEngine();
        for (int key = 0; key < 24; key++) {
            Check.due("at first", x.depth(key), 0);
        }
        x.give(0, 1);
        Check.ruled(x, 8, "+00");
        Check.ruled(x, 9, "+08");
        Check.ruled(x, 10, "=05");
        Check.ruled(x, 11, "+09+08+00");
        Check.ruled(x, 12, "+00+08+09");
        Check.ruled(x, 13, "+00+09+08");
        Check.ruled(x, 14, "+10");
        Check.ruled(x, 15, "+15");
        Check.ruled(x, 16, "+17");
        x.some(Check.set(11, 12, 13, 14, 15, 16), 0);
        int[] dues = {1, 2, 0, 3, 3, 3, 1, 0, 1, 0};
        for (int i = 0; i < dues.length; i++) {
            Check.due("depth(" + (8 + i) + ")", x.depth(8 + i), dues[i]);
        }
        for (int key = 0; key < 8; key++) {
            Check.due("depth(" + key + ")", x.depth(key), 0);
        }
        x.forget(9);
        Check.due("one of those it saw has no TRACE now", x.depth(11), 2);
        x.forget(8);
        Check.due("none of those it saw has one now", x.depth(11), 1);
        x.forget(11);
        Check.due("nor itself", x.depth(11), 0);
    }

    private static void deepest() {
        Check.part("22 depth: the deepest, upwards and downwards");
        BuildEngine up = row("+00");
        BuildEngine upToNoKeys = row("=01");
        BuildEngine down = new BuildEngine();
        down.give(7, 1);
        for (int key = 8; key < 24; key++) {
            Check.ruled(down, key, "+" + Check.two(key == 23 ? 7 : key + 1));
        }
        down.all(0);
        for (int key = 8; key < 24; key++) {
            Check.due("upwards: depth(" + key + ")", up.depth(key), key - 7);
            Check.due("upwards, no KEYS: depth(" + key + ")", upToNoKeys.depth(key), key - 8);
            Check.due("downwards: depth(" + key + ")", down.depth(key), 24 - key);
        }
    }

    private static void orders() {
        Check.part("23 order: -5: there is none; NONE: i below 0");
        BuildEngine x = new BuildEngine();
        Check.due("at first", x.order(0), Check.NOT_SO);
        Check.due("at first", x.order(-1), BuildEngine.NONE);
        for (int length = 0; length <= 16; length++) {
            x.some((1 << length) - 1, 0);
            for (int i = 0; i < length; i++) {
                Check.due("order(" + i + ") of " + length, x.order(i), 8 + i);
            }
            Check.due("behind " + length, x.order(length), Check.NOT_SO);
            Check.due("far behind", x.order(16), Check.NOT_SO);
            Check.due("far behind", x.order(Integer.MAX_VALUE), Check.NOT_SO);
            Check.due("below 0", x.order(-1), BuildEngine.NONE);
            Check.due("far below 0", x.order(Integer.MIN_VALUE), BuildEngine.NONE);
        }
    }

    private static void unlikes() {
        Check.part("24 unlike: how many unlike RESULTS the TARGETS have (those that have one)");
        BuildEngine x = new BuildEngine();
        Check.due("at first", x.unlike(), 0);
        for (int key = 8; key < 24; key++) {
            Check.ruled(x, key, "=" + Check.two(key));
            x.build(key);
            Check.due("each another", x.unlike(), key - 7);
        }
        for (int key = 8; key < 24; key++) {
            Check.ruled(x, key, "=08");
            x.build(key);
            Check.due("one more the same", x.unlike(), key == 8 ? 16 : 24 - key);
        }
        for (int key = 8; key < 24; key++) {
            x.forget(key);
            Check.due("one less of those", x.unlike(), key == 23 ? 0 : 1);
        }
    }

    private static void unlikeFailures() {
        Check.part("24 unlike: FAILURES are of unlike KEYS");
        BuildEngine x = new BuildEngine();
        x.all(0);
        Check.due("EMPTY each", x.unlike(), 16);
        Check.ruled(x, 8, "=00");
        x.all(0);
        Check.due("0 and EMPTIES", x.unlike(), 16);
        Check.ruled(x, 23, "?00");
        x.all(0);
        Check.due("0 twice and EMPTIES", x.unlike(), 15);
        x = row("+00");
        Check.due("a row of CAUSES", x.unlike(), 16);
        x.give(0, -1);
        x.all(0);
        Check.due("-1, 0, 1, ..", x.unlike(), 16);
        x.forget(15);
        Check.due("one is forgotten", x.unlike(), 15);
    }

    private static void fresh() {
        Check.part("25 fresh: the TARGETS with a TRACE in which all is the SAME as the RESULTS are now");
        BuildEngine x = new BuildEngine();
        Check.due("at first", x.fresh(), 0);
        x.all(0);
        Check.due("EMPTY has no TRACE", x.fresh(), 0);
        x = row("=01");
        Check.due("all", x.fresh(), 65535);
        Check.ruled(x, 8, "=02");
        Check.due("the RESULT of 8 stays", x.fresh(), 65534);
        x.build(8);
        Check.due("it is another now: 9 isn't fresh, but 10 is", x.fresh(), 65533);
        Check.ruled(x, 8, "=01");
        x.build(8);
        Check.due("it is the same again", x.fresh(), 65535);
        x.forget(22);
        Check.due("no RESULT is not the same", x.fresh(), 65535 & ~Check.set(22, 23));
        Check.due("nothing is BUILT", x.told(9), 1);
        x = traced(12);
        Check.due("of 12 KEYS", x.fresh(), Check.set(8, 9, 10, 11, 12));
        x.give(0, 1);
        Check.due("the first is another", x.fresh(), Check.set(9, 10, 11, 12));
        x.give(0, 0);
        x.forget(12);
        Check.due("the last is none", x.fresh(), Check.set(9, 10, 11));
    }

    private static void freshFailures() {
        Check.part("25 fresh: of FAILURES");
        BuildEngine x = row("+00");
        Check.due("all", x.fresh(), 65535);
        x.give(0, 0);
        Check.due("EMPTY isn't 0", x.fresh(), 65534);
        x.take(0);
        Check.due("EMPTY again", x.fresh(), 65535);
        Check.ruled(x, 8, "=01+00");
        x.build(8);
        Check.due("a FAILURE of another STEP", x.fresh(), 65533);
        Check.ruled(x, 8, "+01");
        x.build(8);
        Check.due("a FAILURE of another CAUSE", x.fresh(), 65533);
        Check.ruled(x, 8, "-00");
        x.build(8);
        Check.due("the SAME FAILURE", x.fresh(), 65535);
        x = row("+08");
        Check.due("behind a RING no TRACE", x.fresh(), 0);
    }

    private static void forget() {
        Check.part("26 forget: 1, or 0, if it had neither");
        for (int key = 8; key < 24; key++) {
            BuildEngine x = new BuildEngine();
            Check.due("neither", x.forget(key), 0);
            x.build(key);
            Check.due("a RESULT alone", x.forget(key), 1);
            Check.due("neither any more", x.forget(key), 0);
            Check.ruled(x, key, "=05");
            Check.due("a RULE alone", x.forget(key), 0);
            x.build(key);
            Check.due("both", x.forget(key), 1);
            Check.due("no RESULT", x.result(key), Check.NO_RESULT);
            Check.due("no TRACE", x.trace(key, -1), BuildEngine.STATE);
            Check.due("the RULE stays", x.step(key, -1), 1);
            Check.due("neither any more", x.forget(key), 0);
            Check.due("ORDER stays", x.order(0), key);
            x.build(key);
            x.drop(key);
            Check.due("a RESULT alone", x.forget(key), 1);
            Check.due("told(3): it had none ahead", x.told(3), 0);
        }
    }
}
