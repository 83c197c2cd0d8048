/** Terms, part 1, from "A BUILD of some TARGETS" on, and promises 10 to 13, 27: what is first, last, none and the same. */
public final class EdgesOfBuildsTest {
    public static void main(String[] args) {
        noTargetIsDoneAtItsBegin();
        withoutARule();
        spared();
        traceWithoutKeys();
        inputsInTheTrace();
        firstThatIsNotTheSame();
        beingBuiltWhenLookedThrough();
        startsAndPutOffs();
        cuts();
        sameFailures();
        sameCauses();
        numbersAreNoFailures();
        tracesOfFailures();
        noTraceOfRings();
        stopping();
        stoppedByOneThatIsTold();
        stops();
        sets();
        tried();
        triedOfTwelveKeys();
        triedCounts();
        told();
        Check.end();
    }

    private static void counts(BuildEngine x, int starts, int putOffs, int spared, int cuts) {
        Check.due("STARTS", x.told(0), starts);
        Check.due("PUTOFFS", x.told(1), putOffs);
        Check.due("SPARED", x.told(2), spared);
        Check.due("CUTS", x.told(3), cuts);
    }

    private static void order(BuildEngine x, int... keys) {
        Check.due("told(9)", x.told(9), keys.length);
        for (int i = 0; i < keys.length; i++) {
            Check.due("order(" + i + ")", x.order(i), keys[i]);
        }
        Check.due("order(" + keys.length + ")", x.order(keys.length), Check.NOT_SO);
    }

    private static void noTargetIsDoneAtItsBegin() {
        Check.part("a BUILD: at its begin no TARGET is DONE");
        BuildEngine x = new BuildEngine();
        x.give(0, 1);
        Check.ruled(x, 8, "+00");
        Check.ruled(x, 9, "+08");
        Check.due("some of 8 and 9", x.some(Check.set(8, 9), 0), 2);
        order(x, 8, 9);
        counts(x, 2, 0, 0, 0);
        x.give(0, 2);
        Check.due("build(9)", x.build(9), 2);
        order(x, 8, 9);
        Check.due("result(9)", x.result(9), 2);
        Check.due("build(8)", x.build(8), 0);
        order(x, 8);
        Check.due("some of none", x.some(0, 0), 0);
        order(x);
        Check.due("some of none, STOPPING", x.some(0, 1), 0);
        Check.due("told(10)", x.told(10), Check.NOT_SO);
        counts(x, 4, 0, 1, 0);
    }

    private static void withoutARule() {
        Check.part("without a RULE its RESULT is EMPTY (STEP -1)");
        for (int key = 8; key < 24; key++) {
            BuildEngine x = new BuildEngine();
            Check.due("build(" + key + ")", x.build(key), 0);
            Check.due("KEY", x.failure(key, 0, 0), key);
            Check.due("SORT", x.failure(key, 0, 1), Check.EMPTY);
            Check.due("STEP", x.failure(key, 0, 2), -1);
            Check.due("causes", x.causes(key), 0);
            Check.due("trace", x.trace(key, -1), BuildEngine.STATE);
            order(x, key);
            x.build(key);
            counts(x, 0, 0, 0, 0);
        }
        BuildEngine x = new BuildEngine();
        Check.ruled(x, 8, "=05");
        x.build(8);
        x.drop(8);
        Check.due("result(8) ahead of a BUILD", x.result(8), 5);
        Check.due("build(8)", x.build(8), 0);
        Check.due("result(8) behind it", x.result(8), Check.NO_RESULT + Check.EMPTY);
        counts(x, 1, 0, 0, 0);
    }

    private static void spared() {
        Check.part("are all the same: SPARED is 1 more");
        BuildEngine x = new BuildEngine();
        x.give(0, 1);
        Check.ruled(x, 8, "+00");
        Check.ruled(x, 9, "+08+00");
        Check.ruled(x, 10, "+09+08");
        x.build(10);
        counts(x, 5, 2, 0, 0);
        Check.due("result(10)", x.result(10), 3);
        Check.due("build(10)", x.build(10), 0);
        counts(x, 5, 2, 3, 0);
        order(x, 8, 9, 10);
        Check.due("result(10)", x.result(10), 3);
        Check.due("the TRACE stays", x.trace(10, -1), 2);
        x.give(0, 9);
        x.give(0, 1);
        Check.due("given back what it was", x.build(10), 0);
        counts(x, 5, 2, 6, 0);
    }

    private static void traceWithoutKeys() {
        Check.part("a TRACE without KEYS is all the same");
        BuildEngine x = new BuildEngine();
        Check.ruled(x, 8, "=05");
        Check.ruled(x, 9, "=05/00%00");
        Check.ruled(x, 10, "%00");
        x.some(Check.set(8, 10), 0);
        counts(x, 2, 0, 0, 0);
        Check.due("trace(8, -1)", x.trace(8, -1), 0);
        Check.due("trace(10, -1), of a FAILURE", x.trace(10, -1), 0);
        x.some(Check.set(8, 10), 0);
        counts(x, 2, 0, 2, 0);
        Check.due("the FAILURE stays", x.result(10), Check.NO_RESULT + Check.NOUGHT);
    }

    private static void inputsInTheTrace() {
        Check.part("of an INPUT its CONTENT, or EMPTY");
        BuildEngine x = new BuildEngine();
        Check.ruled(x, 8, "+07");
        Check.due("build(8) of EMPTY", x.build(8), 1);
        Check.due("seen(8, 0)", x.seen(8, 0), Check.NO_RESULT + Check.EMPTY);
        Check.due("still EMPTY", x.build(8), 0);
        x.give(7, 0);
        Check.due("0 isn't EMPTY", x.build(8), 1);
        Check.due("still 0", x.build(8), 0);
        x.give(7, 1);
        Check.due("1 isn't 0", x.build(8), 1);
        x.take(7);
        Check.due("EMPTY isn't 1", x.build(8), 1);
        x.give(7, 1);
        x.take(7);
        Check.due("EMPTY again", x.build(8), 0);
        counts(x, 4, 0, 3, 0);
    }

    private static void firstThatIsNotTheSame() {
        Check.part("at the first that isn't the same it is RUN");
        BuildEngine x = new BuildEngine();
        x.give(0, 1);
        x.give(1, 1);
        Check.ruled(x, 9, "+01");
        Check.ruled(x, 10, "+01+01");
        // while INPUT 0 is 0, neither 9 nor 10 is needed
        Check.ruled(x, 8, "+00?02+09+10");
        x.build(8);
        order(x, 9, 10, 8);
        x.give(0, 0);
        x.give(1, 2);
        Check.due("the first of three", x.build(8), 1);
        order(x, 8);
        x.give(0, 1);
        x.build(8);
        order(x, 9, 10, 8);
        x.give(1, 3);
        Check.due("the second of three: 9, then 8, then 10 for it", x.build(8), 4);
        order(x, 9, 10, 8);
        Check.ruled(x, 10, "=02");
        x.build(8);
        Check.ruled(x, 10, "=03");
        Check.due("the last of three", x.build(8), 2);
        order(x, 9, 10, 8);
        Check.due("result(8)", x.result(8), 7);
    }

    private static void beingBuiltWhenLookedThrough() {
        Check.part("one that is being BUILT: it is not the same");
        BuildEngine x = new BuildEngine();
        Check.ruled(x, 9, "=05");
        Check.ruled(x, 8, "+09");
        x.build(8);
        Check.ruled(x, 9, "=05?00+08");
        // 9's RESULT is 5 still, as 8 has seen it
        Check.due("build(9): 9, 8, 9", x.build(9), 3);
        Check.due("result(8)", x.result(8), Check.NO_RESULT + Check.RING);
        Check.due("its STEP", x.failure(8, 0, 2), 0);
        Check.due("result(9)", x.result(9), Check.NO_RESULT + Check.NEEDS);
        order(x, 8, 9);
    }

    private static void startsAndPutOffs() {
        Check.part("STARTS each time a RUN begins, PUTOFFS each time one is PUT OFF");
        BuildEngine x = new BuildEngine();
        x.give(0, 1);
        Check.ruled(x, 23, "+00");
        for (int key = 8; key < 23; key++) {
            Check.ruled(x, key, "+" + Check.two(key + 1));
        }
        Check.due("all from the first on", x.all(0), 16);
        counts(x, 31, 15, 0, 0);
        Check.due("order(0)", x.order(0), 23);
        Check.due("order(15)", x.order(15), 8);
        Check.due("order(16)", x.order(16), Check.NOT_SO);
        x.give(0, 2);
        Check.due("looked through, none is PUT OFF", x.build(8), 16);
        counts(x, 47, 15, 0, 0);
        for (int key = 8; key < 24; key++) {
            x.forget(key);
        }
        for (int key = 23; key >= 8; key--) {
            Check.due("from the last on", x.build(key), key == 23 ? 1 : 2);
        }
        counts(x, 78, 30, 120, 0);
    }

    private static void cuts() {
        Check.part("CUTS: is that the same as the one it had ahead (it had one)");
        BuildEngine x = new BuildEngine();
        x.give(0, 4);
        Check.ruled(x, 8, "+00%02");
        x.build(8);
        counts(x, 1, 0, 0, 0);
        x.give(0, 6);
        x.build(8);
        counts(x, 2, 0, 0, 1);
        x.give(0, 7);
        x.build(8);
        counts(x, 3, 0, 0, 1);
        Check.due("seen(8, 0)", x.seen(8, 0), 7);
        x.forget(8);
        x.build(8);
        counts(x, 4, 0, 0, 1);
        Check.ruled(x, 8, "=01");
        x.build(8);
        counts(x, 5, 0, 0, 2);
        Check.ruled(x, 9, "=00");
        x.build(9);
        counts(x, 6, 0, 0, 2);
        x.build(10);
        x.build(10);
        counts(x, 6, 0, 0, 2);
        Check.ruled(x, 10, "=00");
        x.build(10);
        counts(x, 7, 0, 0, 2);
    }

    /** Has 8 come to the same by two RULES, as CUTS tell it? */
    private static void same(boolean isSame, String rule, String then) {
        BuildEngine x = new BuildEngine();
        x.give(0, 1);
        x.give(1, 1000000);
        Check.ruled(x, 8, rule);
        x.build(8);
        Check.ruled(x, 8, then);
        x.build(8);
        Check.due(rule + " and " + then, x.told(3), isSame ? 1 : 0);
    }

    private static void sameFailures() {
        Check.part("the SAME are FAILURES of the same KEY, SORT, STEP");
        same(true, "=01%00", "=02%00");
        same(false, "=01%00", "=01=01%00");
        same(false, "%00", "=01%00");
        same(true, "=01!00", "=02!01");
        same(false, "=01!00", "=01=02!01");
        same(false, "=01!00", "=01%00");
        same(true, "+01+01", "-01-01");
        same(false, "+01+01", "+01%00");
        same(false, "+01+01", "+01!00");
        same(true, "+08", "-08");
        same(false, "+08", "=01+08");
        same(false, "+08", "%00");
        same(true, "+02", "-02");
        same(false, "+02", "+03");
        same(false, "+02", "=01+02");
        same(false, "+02", "+09");
        same(false, "+02", "+08");
        same(false, "+02", "%00");
    }

    /** 8 needs 10, which needs 9, which fails now so, now so. */
    private static void sameCauses() {
        Check.part("the SAME are FAILURES with CAUSES that are the SAME (or none)");
        String[] rules = {"%00", "=01%00", "=01!00", "+02", "+03", "=01+02", "+11", "+09", "=05"};
        for (int was = 0; was < rules.length; was++) {
            for (int is = 0; is < rules.length; is++) {
                BuildEngine x = new BuildEngine();
                Check.ruled(x, 9, rules[was]);
                Check.ruled(x, 10, "+09");
                Check.ruled(x, 8, "+10");
                x.build(8);
                Check.ruled(x, 9, rules[is]);
                int starts = x.build(8);
                String call = rules[was] + " and " + rules[is];
                boolean isRing = rules[was].equals("+09");
                boolean putOff = rules[is].equals("+11");
                int due = (was == is ? 1 : 3) + (putOff ? 1 : 0);
                Check.due("STARTS of " + call, starts, isRing ? (putOff ? 6 : 5) : due);
                Check.due("CUTS of " + call, x.told(3), was != is ? 0 : isRing ? 3 : 1);
            }
        }
    }

    private static void numbersAreNoFailures() {
        Check.part("the SAME are both the same number, or both FAILURES");
        same(true, "=05", "=05");
        same(true, "=00", "?99");
        same(false, "=05", "=06");
        same(false, "=00", "%00");
        same(false, "=00", "+02");
        same(false, "+08", "=00");
        BuildEngine x = new BuildEngine();
        Check.ruled(x, 8, "=00");
        Check.ruled(x, 9, "+08");
        x.build(9);
        x.drop(8);
        Check.due("0 is not EMPTY", x.build(9), 1);
        Check.due("result(9)", x.result(9), Check.NO_RESULT + Check.NEEDS);
    }

    private static void tracesOfFailures() {
        Check.part("its TRACE: the KEYS asked for in its last RUN, in order, each once, with the RESULTS seen");
        BuildEngine x = new BuildEngine();
        x.give(0, 0);
        x.give(1, 1000000);
        String[] rules = {"+01/00+02", "+01+01+02", "+01!00+02", "+01+07+02", "+01+09+02", "+01%00+02", "/00+01"};
        int[] sorts = {Check.NOUGHT, Check.OVER, Check.TOLD, Check.NEEDS, Check.NEEDS, Check.NOUGHT, Check.NOUGHT};
        int[] lengths = {2, 1, 1, 2, 2, 1, 1};
        int[] lasts = {0, 1, 1, 7, 9, 1, 0};
        for (int i = 0; i < rules.length; i++) {
            Check.ruled(x, 8, rules[i]);
            x.build(8);
            Check.due(rules[i], x.result(8), Check.NO_RESULT + sorts[i]);
            Check.due("as far as it came", x.trace(8, -1), lengths[i]);
            Check.due("the last that it asked for", x.trace(8, lengths[i] - 1), lasts[i]);
            Check.due("with what was seen", x.seen(8, lengths[i] - 1), x.result(lasts[i]));
        }
        Check.ruled(x, 8, "+01-01+00+01-01+00*01");
        x.build(8);
        Check.due("each once", x.trace(8, -1), 2);
        Check.due("in order", x.trace(8, 0), 1);
        Check.due("in order", x.trace(8, 1), 0);
    }

    private static void noTraceOfRings() {
        Check.part("no TRACE, if its RESULT is RING or has RING among its CAUSES, or EMPTY");
        BuildEngine x = new BuildEngine();
        Check.ruled(x, 8, "+00+08");
        x.give(0, 1);
        for (int key = 9; key < 24; key++) {
            Check.ruled(x, key, "+" + Check.two(key - 1));
        }
        Check.due("all(0)", x.all(0), 16);
        Check.due("no TRACE has come of it", x.told(7), 0);
        Check.due("causes(23)", x.causes(23), 15);
        Check.due("each is RUN again", x.build(23), 31);
        Check.due("and comes to the same", x.told(3), 16);
        x.drop(8);
        x.all(0);
        Check.due("EMPTY has none, those that need it have", x.told(7), 15);
        Check.due("trace(8, -1)", x.trace(8, -1), BuildEngine.STATE);
        Check.due("all but that are SPARED", x.build(23), 0);
        Check.due("told(2)", x.told(2), 15);
    }

    /** TARGETS 8 .. 23 come to CONTENTS, but for one. */
    private static void stopping() {
        Check.part("STOPPING builds end with the first TARGET told whose RESULT is a FAILURE; others go on");
        for (int failing = 8; failing <= 24; failing++) {
            BuildEngine x = new BuildEngine();
            for (int key = 8; key < 24; key++) {
                Check.ruled(x, key, key == failing ? "%00" : "=01");
            }
            Check.due("all(1)", x.all(1), Math.min(failing - 7, 16));
            Check.due("told(10)", x.told(10), failing == 24 ? Check.NOT_SO : failing);
            Check.due("told(5)", x.told(5), Math.min(failing - 7, 16));
            Check.due("all(0)", x.all(0), 16);
            Check.due("told(10)", x.told(10), Check.NOT_SO);
            Check.due("some(65535, 1)", x.some(65535, 1), Math.min(failing - 7, 16));
            Check.due("told(10)", x.told(10), failing == 24 ? Check.NOT_SO : failing);
            Check.due("some(65535, 0)", x.some(65535, 0), 16);
            Check.due("told(10)", x.told(10), Check.NOT_SO);
            Check.due("all(1), SPARED", x.all(1), Math.min(failing - 7, 16));
            Check.due("told(0)", x.told(0), 16);
        }
        BuildEngine x = new BuildEngine();
        Check.due("the first of all, without a RULE", x.all(1), 1);
        Check.due("told(10)", x.told(10), 8);
        Check.due("some of 23", x.some(32768, 1), 1);
        Check.due("told(10)", x.told(10), 23);
    }

    private static void stoppedByOneThatIsTold() {
        Check.part("STOPPING: the first TARGET told, not one that it needs");
        BuildEngine x = new BuildEngine();
        x.give(0, 0);
        Check.ruled(x, 8, "+23");
        Check.ruled(x, 23, "+22");
        Check.due("8 needs 23, which needs 22", x.all(1), 3);
        Check.due("told(10)", x.told(10), 8);
        order(x, 22, 23, 8);
        Check.ruled(x, 9, "+10");
        Check.ruled(x, 10, "=00");
        x.build(9);
        Check.ruled(x, 10, "%00");
        Check.due("9 is looked through, and 10 fails for it", x.some(Check.set(9, 10, 11), 1), 2);
        order(x, 10, 9);
        Check.due("told(10)", x.told(10), 9);
        Check.due("a set without those that fail", x.some(Check.set(9), 1), 2);
        Check.due("told(10)", x.told(10), 9);
        Check.ruled(x, 11, "=01");
        Check.due("none of those told fails", x.some(Check.set(11), 1), 1);
        Check.due("told(10)", x.told(10), Check.NOT_SO);
    }

    private static void stops() {
        Check.part("11 all: STOPPING (1) or not (0); NONE: stops");
        int[] others = {Integer.MIN_VALUE, -2, -1, 2, 3, 256, 257, Integer.MAX_VALUE};
        for (int other : others) {
            BuildEngine x = new BuildEngine();
            Check.due("all(" + other + ")", x.all(other), BuildEngine.NONE);
            Check.due("some(0, " + other + ")", x.some(0, other), BuildEngine.NONE);
            Check.due("some(65535, " + other + ")", x.some(65535, other), BuildEngine.NONE);
            Check.due("nothing is BUILT", x.told(5), 0);
        }
        Check.due("all(0)", new BuildEngine().all(0), 16);
        Check.due("all(1)", new BuildEngine().all(1), 1);
        Check.due("some(65535, 0)", new BuildEngine().some(65535, 0), 16);
        Check.due("some(65535, 1)", new BuildEngine().some(65535, 1), 1);
    }

    private static void sets() {
        Check.part("12 some BAD: set (0 .. 65535)");
        int[] others = {Integer.MIN_VALUE, -65536, -65535, -2, -1, 65536, 65537, 131071, Integer.MAX_VALUE};
        for (int other : others) {
            BuildEngine x = new BuildEngine();
            Check.due("some(" + other + ", 0)", x.some(other, 0), BuildEngine.BAD);
            Check.due("some(" + other + ", 2)", x.some(other, 2), BuildEngine.BAD);
            Check.due("nothing is BUILT", x.told(5), 0);
        }
        for (int set : new int[] {0, 1, 2, 3, 32767, 32768, 32769, 43690, 65534, 65535}) {
            BuildEngine x = new BuildEngine();
            Check.due("some(" + set + ", 0)", x.some(set, 0), Integer.bitCount(set));
            for (int key = 8; key < 24; key++) {
                boolean told = (set >> (key - 8) & 1) != 0;
                Check.due("result(" + key + ")", x.result(key), Check.NO_RESULT + (told ? Check.EMPTY : 0));
            }
            int last = 0;
            for (int i = 0; i < x.told(9); i++) {
                Check.isTrue("by numbers", x.order(i) > last);
                last = x.order(i);
            }
        }
    }

    private static void tried() {
        Check.part("13 tried: had an INPUT the CONTENT v");
        for (int v : new int[] {-1000000, -1, 0, 1, 1000000}) {
            BuildEngine x = new BuildEngine();
            x.give(1, v);
            // without INPUT 0 being what INPUT 1 is, it needs 9 too
            Check.ruled(x, 8, "+00-01?01+09");
            int other = v == 1000000 ? 999999 : v + 1;
            Check.due("tried(8, 0, " + v + ")", x.tried(8, 0, v), 1);
            Check.due("tried(8, 0, " + other + ")", x.tried(8, 0, other), 2);
            Check.due("tried(8, 0, 1000001)", x.tried(8, 0, 1000001), BuildEngine.BAD);
            Check.due("tried(8, 0, -1000001)", x.tried(8, 0, -1000001), BuildEngine.BAD);
            Check.due("result(0)", x.result(0), Check.NO_RESULT + Check.EMPTY);
            Check.due("result(8)", x.result(8), Check.NO_RESULT);
            Check.due("result(9)", x.result(9), Check.NO_RESULT);
            x.give(0, v);
            Check.due("build(8)", x.build(8), 1);
            Check.due("of the CONTENT that it has", x.tried(8, 0, v), 0);
            Check.due("of one that isn't asked for", x.tried(8, 2, 5), 0);
            Check.due("of another", x.tried(8, 0, other), 2);
            Check.due("of another, again", x.tried(8, 0, other), 2);
            Check.due("of one without a RULE", x.tried(23, 0, v), 0);
        }
        for (int input = 0; input < 8; input++) {
            BuildEngine x = new BuildEngine();
            Check.ruled(x, 8, "+" + Check.two(input));
            x.build(8);
            for (int i = 0; i < 8; i++) {
                Check.due("tried(8, " + i + ", 0)", x.tried(8, i, 0), i == input ? 1 : 0);
            }
        }
    }

    private static void triedOfTwelveKeys() {
        Check.part("13 tried: a TRACE of 12 KEYS is LOOKED THROUGH to its end");
        BuildEngine x = new BuildEngine();
        for (int input = 0; input < 8; input++) {
            x.give(input, input);
        }
        for (int key = 20; key < 24; key++) {
            Check.ruled(x, key, "=01");
        }
        Check.ruled(x, 8, "+20+21+22+23+07+06+05+04+03+02+01+00");
        x.build(8);
        for (int input = 0; input < 8; input++) {
            Check.due("tried(8, " + input + ", " + input + ")", x.tried(8, input, input), 0);
            Check.due("tried(8, " + input + ", 9)", x.tried(8, input, 9), 1);
        }
    }

    private static void triedCounts() {
        Check.part("13 tried: nothing of it stays");
        BuildEngine x = new BuildEngine();
        x.give(0, 0);
        Check.ruled(x, 8, "+00?01+09");
        Check.ruled(x, 9, "+09");
        x.some(Check.set(8, 10), 1);
        Check.due("told(10)", x.told(10), 10);
        Check.due("a ring is tried", x.tried(8, 0, 1), 3);
        Check.due("tried without a RULE", x.tried(11, 0, 1), 0);
        counts(x, 1, 0, 0, 0);
        order(x, 8, 10);
        Check.due("told(10)", x.told(10), 10);
        Check.due("told(5)", x.told(5), 2);
        Check.due("told(6)", x.told(6), 1);
        Check.due("told(7)", x.told(7), 1);
        Check.due("result(0)", x.result(0), 0);
        Check.due("result(11)", x.result(11), Check.NO_RESULT);
        Check.due("fresh()", x.fresh(), Check.set(8));
        Check.due("build(8)", x.build(8), 0);
        x.image();
        x.tried(8, 0, 1);
        x.undo();
        Check.due("THE IMAGE isn't touched", x.result(8), 0);
        Check.due("undo() again", x.undo(), 2);
    }

    private static void told() {
        Check.part("27 told: what 0 .. 10; NONE");
        BuildEngine x = new BuildEngine();
        for (int what : new int[] {Integer.MIN_VALUE, -2, -1, 11, 12, 255, 256, Integer.MAX_VALUE}) {
            Check.due("told(" + what + ")", x.told(what), BuildEngine.NONE);
        }
        for (int what = 0; what < 11; what++) {
            Check.due("told(" + what + ") at first", x.told(what), what == 10 ? Check.NOT_SO : 0);
        }
        for (int key = 8; key < 24; key++) {
            Check.ruled(x, key, "=00/00");
            Check.due("told(4)", x.told(4), key - 7);
            x.build(key);
            Check.due("told(5)", x.told(5), key - 7);
            Check.due("told(6)", x.told(6), key - 7);
            Check.due("told(7)", x.told(7), key - 7);
            Check.due("told(9)", x.told(9), 1);
        }
        Check.due("told(0)", x.told(0), 16);
        for (int key = 8; key < 24; key++) {
            x.drop(key);
            Check.due("told(4)", x.told(4), 23 - key);
            Check.due("told(7)", x.told(7), 23 - key);
            x.forget(key);
            Check.due("told(5)", x.told(5), 23 - key);
            Check.due("told(6)", x.told(6), 23 - key);
        }
    }
}
