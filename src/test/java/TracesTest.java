/** Promises 19 to 26: TRACES and what is seen by them. */
public final class TracesTest {
    public static void main(String[] args) {
        traceAndSeen();
        noTrace();
        usersAndDepth();
        order();
        unlike();
        fresh();
        forget();
        Check.end();
    }

    private static BuildEngine ladder() {
        BuildEngine x = new BuildEngine();
        x.give(0, 4);
        Check.ruled(x, 8, "+00+00");
        Check.ruled(x, 9, "+08+00+08");
        Check.ruled(x, 10, "=07");
        Check.ruled(x, 11, "+10+09");
        Check.ruled(x, 12, "+10+06+09");
        x.some(Check.set(8, 9, 10, 11, 12, 13), 0);
        return x;
    }

    private static void traceAndSeen() {
        Check.part("19 trace");
        BuildEngine x = ladder();
        Check.due("trace(9, -1)", x.trace(9, -1), 2);
        Check.due("trace(9, 0)", x.trace(9, 0), 8);
        Check.due("trace(9, 1)", x.trace(9, 1), 0);
        Check.due("trace(9, 2)", x.trace(9, 2), BuildEngine.NONE);
        Check.due("trace(9, MAX)", x.trace(9, Integer.MAX_VALUE), BuildEngine.NONE);
        Check.due("trace(9, -2)", x.trace(9, -2), BuildEngine.NONE);
        Check.due("trace(10, -1)", x.trace(10, -1), 0);
        Check.due("trace(10, 0)", x.trace(10, 0), BuildEngine.NONE);
        Check.due("trace(12, -1), cut short by a FAILURE", x.trace(12, -1), 2);
        Check.due("trace(12, 1)", x.trace(12, 1), 6);
        Check.due("trace(14, -1)", x.trace(14, -1), BuildEngine.STATE);
        Check.due("trace(14, -2)", x.trace(14, -2), BuildEngine.NONE);
        Check.due("trace(14, 0)", x.trace(14, 0), BuildEngine.STATE);
        Check.due("trace(0, -1)", x.trace(0, -1), BuildEngine.NONE);
        Check.due("trace(24, -1)", x.trace(24, -1), BuildEngine.NONE);

        Check.part("20 seen");
        Check.due("seen(9, 0)", x.seen(9, 0), 8);
        Check.due("seen(9, 1)", x.seen(9, 1), 4);
        Check.due("seen(9, 2)", x.seen(9, 2), BuildEngine.NONE);
        Check.due("seen(9, -1)", x.seen(9, -1), BuildEngine.NONE);
        Check.due("seen(12, 1)", x.seen(12, 1), Check.NO_RESULT + Check.EMPTY);
        Check.due("seen(10, 0)", x.seen(10, 0), BuildEngine.NONE);
        Check.due("seen(14, 0)", x.seen(14, 0), BuildEngine.STATE);
        Check.due("seen(14, -1)", x.seen(14, -1), BuildEngine.NONE);
        Check.due("seen(7, 0)", x.seen(7, 0), BuildEngine.NONE);
        Check.due("seen(24, 0)", x.seen(24, 0), BuildEngine.NONE);
        x.give(0, 5);
        Check.due("what was seen stays", x.seen(9, 1), 4);
        Check.due("build(8)", x.build(8), 1);
        Check.due("what was seen stays", x.seen(9, 0), 8);

        Check.ruled(x, 14, "+00-01+02-03+04-05+06-07+10-11+08-09");
        for (int key = 1; key < 8; key++) {
            x.give(key, key);
        }
        x.build(14);
        Check.due("the longest TRACE", x.trace(14, -1), 12);
        Check.due("its last", x.trace(14, 11), 9);
        Check.due("what it saw of that", x.seen(14, 11), x.result(9));
        Check.due("behind its last", x.seen(14, 12), BuildEngine.NONE);
    }

    private static void noTrace() {
        Check.part("19 no TRACE");
        BuildEngine x = new BuildEngine();
        Check.ruled(x, 8, "+08");
        Check.ruled(x, 9, "+08");
        Check.ruled(x, 10, "+11");
        Check.ruled(x, 12, "+10");
        x.some(Check.set(8, 9, 10, 11, 12), 0);
        Check.due("RING", x.trace(8, -1), BuildEngine.STATE);
        Check.due("RING among the CAUSES", x.trace(9, -1), BuildEngine.STATE);
        Check.due("EMPTY", x.trace(11, -1), BuildEngine.STATE);
        Check.due("EMPTY only among the CAUSES", x.trace(10, -1), 1);
        Check.due("EMPTY only among the CAUSES", x.trace(12, -1), 1);
        Check.ruled(x, 8, "+00?01=00+13");
        x.give(0, 1);
        x.some(Check.set(8, 9), 0);
        Check.due("a TRACE where there was none", x.trace(9, -1), 1);
        Check.ruled(x, 8, "+09");
        x.build(9);
        Check.due("none where there was one", x.trace(9, -1), BuildEngine.STATE);
    }

    private static void usersAndDepth() {
        Check.part("21 users");
        BuildEngine x = ladder();
        Check.due("users(0)", x.users(0), Check.set(8, 9));
        Check.due("users(8)", x.users(8), Check.set(9));
        Check.due("users(9)", x.users(9), Check.set(11));
        Check.due("users(10)", x.users(10), Check.set(11, 12));
        Check.due("users(6)", x.users(6), Check.set(12));
        Check.due("users(12)", x.users(12), 0);
        Check.due("users(23)", x.users(23), 0);
        Check.due("users(24)", x.users(24), BuildEngine.NONE);
        Check.due("users(-1)", x.users(-1), BuildEngine.NONE);

        Check.part("22 depth");
        Check.due("depth(0)", x.depth(0), 0);
        Check.due("depth(7)", x.depth(7), 0);
        Check.due("depth(8)", x.depth(8), 1);
        Check.due("depth(9)", x.depth(9), 2);
        Check.due("depth(11)", x.depth(11), 3);
        Check.due("depth(13)", x.depth(13), 0);
        Check.due("depth(14)", x.depth(14), 0);
        Check.due("depth(24)", x.depth(24), BuildEngine.NONE);
        Check.due("depth(-1)", x.depth(-1), BuildEngine.NONE);
        x.drop(8);
        Check.due("depth(9) when 8 has no TRACE", x.depth(9), 1);
        depthAboveNoKeys();
    }

    private static void depthAboveNoKeys() {
        BuildEngine x = ladder();
        Check.ruled(x, 14, "=00/00");
        Check.ruled(x, 15, "+10");
        Check.ruled(x, 16, "+10+14");
        Check.ruled(x, 17, "+15");
        Check.ruled(x, 18, "=00?01+10=03");
        Check.ruled(x, 19, "=00%00");
        Check.ruled(x, 20, "+19");
        x.all(0);
        Check.due("a TRACE of no KEYS", x.trace(10, -1), 0);
        Check.due("depth(10), of no KEYS", x.depth(10), 0);
        Check.due("depth(12), of 10 and an INPUT", x.depth(12), 1);
        Check.due("depth(11), of 10 and 9", x.depth(11), 3);
        Check.due("depth(14), of an INPUT", x.depth(14), 1);
        Check.due("depth(15), of 10 alone", x.depth(15), 1);
        Check.due("depth(16), of 10 and 14", x.depth(16), 2);
        Check.due("depth(17), of 15", x.depth(17), 2);
        Check.due("depth(18), whose asking is passed over", x.depth(18), 0);
        Check.due("depth(19), a FAILURE of no KEYS", x.depth(19), 0);
        Check.due("depth(20), of that FAILURE", x.depth(20), 1);
    }

    private static void order() {
        Check.part("23 order");
        BuildEngine x = ladder();
        int[] keys = {8, 9, 10, 11, 12, 13};
        for (int i = 0; i < keys.length; i++) {
            Check.due("order(" + i + ")", x.order(i), keys[i]);
        }
        Check.due("order(6)", x.order(6), Check.NOT_SO);
        Check.due("order(16)", x.order(16), Check.NOT_SO);
        Check.due("order(MAX)", x.order(Integer.MAX_VALUE), Check.NOT_SO);
        Check.due("order(-1)", x.order(-1), BuildEngine.NONE);
        x.forget(11);
        x.build(11);
        Check.due("order(0), SPARED ones too", x.order(0), 10);
        Check.due("order(1)", x.order(1), 8);
        Check.due("order(2)", x.order(2), 9);
        Check.due("order(3)", x.order(3), 11);
        Check.due("order(4)", x.order(4), Check.NOT_SO);
    }

    private static void unlike() {
        Check.part("24 unlike");
        BuildEngine x = new BuildEngine();
        Check.due("of none", x.unlike(), 0);
        Check.ruled(x, 8, "=05");
        Check.ruled(x, 9, "=03=05");
        Check.ruled(x, 10, "=06");
        x.some(Check.set(8, 9, 10), 0);
        Check.due("numbers", x.unlike(), 2);
        x.some(Check.set(11, 12), 0);
        Check.due("FAILURES of unlike KEYS", x.unlike(), 4);
        x.forget(10);
        Check.due("behind forget", x.unlike(), 3);
        x.all(0);
        Check.due("behind all(0)", x.unlike(), 15);
    }

    private static void fresh() {
        Check.part("25 fresh");
        BuildEngine x = ladder();
        Check.due("behind a BUILD", x.fresh(), Check.set(8, 9, 10, 11, 12));
        x.give(0, 5);
        Check.due("behind give", x.fresh(), Check.set(10, 11, 12));
        x.give(0, 4);
        Check.due("behind giving that back", x.fresh(), Check.set(8, 9, 10, 11, 12));
        x.give(6, 1);
        Check.due("behind giving what was EMPTY", x.fresh(), Check.set(8, 9, 10, 11));
        x.take(6);
        x.forget(9);
        Check.due("behind forgetting one that was seen", x.fresh(), Check.set(8, 10, 12));
        x.drop(10);
        Check.due("a RESULT stays by drop", x.fresh(), Check.set(8, 12));
        Check.due("nothing is BUILT", x.told(0), 5);
    }

    private static void forget() {
        Check.part("26 forget");
        BuildEngine x = ladder();
        Check.due("forget(9)", x.forget(9), 1);
        Check.due("result(9)", x.result(9), Check.NO_RESULT);
        Check.due("trace(9, -1)", x.trace(9, -1), BuildEngine.STATE);
        Check.due("step(9, -1)", x.step(9, -1), 3);
        Check.due("forget(9) again", x.forget(9), 0);
        Check.due("forget(13), a RESULT without a TRACE", x.forget(13), 1);
        Check.due("forget(14)", x.forget(14), 0);
        Check.due("forget(7)", x.forget(7), BuildEngine.NONE);
        Check.due("forget(24)", x.forget(24), BuildEngine.NONE);
        Check.due("forget(-1)", x.forget(-1), BuildEngine.NONE);
        Check.due("build(9)", x.build(9), 2);
        Check.due("told(3)", x.told(3), 0);
    }
}
