/** Promises 10 to 13 and 27: BUILDS, what they count, what is tried. */
public final class BuildsTest {
    public static void main(String[] args) {
        putOff();
        sparedAndCut();
        needsNowThisNowThat();
        rings();
        ringWhenLookedThrough();
        all();
        some();
        tried();
        told();
        Check.end();
    }

    private static void counts(BuildEngine x, int starts, int putOffs, int spared, int cuts) {
        Check.due("STARTS", x.told(0), starts);
        Check.due("PUTOFFS", x.told(1), putOffs);
        Check.due("SPARED", x.told(2), spared);
        Check.due("CUTS", x.told(3), cuts);
    }

    private static void putOff() {
        Check.part("10 PUT OFF");
        BuildEngine x = new BuildEngine();
        Check.ruled(x, 8, "+09+10+09");
        Check.ruled(x, 9, "=03+10");
        Check.ruled(x, 10, "=04");
        Check.due("build(8)", x.build(8), 5);
        Check.due("result(8)", x.result(8), 18);
        counts(x, 5, 2, 0, 0);
        Check.due("order(0)", x.order(0), 10);
        Check.due("order(1)", x.order(1), 9);
        Check.due("order(2)", x.order(2), 8);
        Check.due("trace(8, -1)", x.trace(8, -1), 2);
        Check.due("build(7)", x.build(7), BuildEngine.NONE);
        Check.due("build(24)", x.build(24), BuildEngine.NONE);
        Check.due("build(-1)", x.build(-1), BuildEngine.NONE);
        Check.due("order behind NONE", x.order(2), 8);
        Check.due("without a RULE", x.build(20), 0);
        counts(x, 5, 2, 0, 0);
        Check.due("told(9)", x.told(9), 1);
        Check.due("result(20)", x.result(20), Check.NO_RESULT + Check.EMPTY);
        Check.due("without a RULE again", x.build(20), 0);
        counts(x, 5, 2, 0, 0);
    }

    private static void sparedAndCut() {
        Check.part("10 SPARED and CUTS");
        BuildEngine x = new BuildEngine();
        x.give(0, 3);
        Check.ruled(x, 8, "+00%02");
        Check.ruled(x, 9, "+08+01");
        Check.ruled(x, 10, "+09");
        x.give(1, 5);
        Check.due("build(10)", x.build(10), 5);
        counts(x, 5, 2, 0, 0);
        Check.due("build(10) again", x.build(10), 0);
        counts(x, 5, 2, 3, 0);
        x.give(0, 5);
        Check.due("build(10) when 8 comes to the same", x.build(10), 1);
        counts(x, 6, 2, 5, 1);
        x.give(0, 4);
        Check.due("build(10) when 8 comes to another", x.build(10), 3);
        Check.due("result(10)", x.result(10), 5);
        counts(x, 9, 2, 5, 1);
        x.take(1);
        Check.due("build(10) when 9 fails", x.build(10), 2);
        counts(x, 11, 2, 6, 1);
        Check.due("build(10) when it fails the same", x.build(10), 0);
        counts(x, 11, 2, 9, 1);
        Check.ruled(x, 9, "+08+01");
        Check.due("a new RULE that fails the same", x.build(10), 2);
        counts(x, 13, 3, 11, 2);
        Check.ruled(x, 9, "=00+08+01");
        Check.due("a new RULE that fails at another STEP", x.build(10), 3);
        counts(x, 16, 4, 12, 2);
        x.forget(10);
        Check.due("none ahead: no CUT", x.build(10), 2);
        counts(x, 18, 5, 14, 2);
    }

    private static void needsNowThisNowThat() {
        Check.part("10 now this, now that");
        BuildEngine x = new BuildEngine();
        x.give(0, 0);
        x.give(1, 7);
        Check.ruled(x, 8, "+00?01&09=02*10");
        Check.ruled(x, 9, "+01");
        Check.ruled(x, 10, "=06");
        Check.due("build(8)", x.build(8), 3);
        Check.due("result(8)", x.result(8), 12);
        Check.due("trace(8, 1)", x.trace(8, 1), 10);
        x.give(1, 8);
        Check.due("what it didn't need doesn't matter", x.build(8), 0);
        x.give(0, 1);
        Check.ruled(x, 8, "+00?02&09?00*10");
        Check.due("build(8)", x.build(8), 4);
        Check.due("result(8)", x.result(8), 48);
        Check.due("trace(8, -1)", x.trace(8, -1), 3);
        x.give(1, 9);
        x.give(0, 0);
        Check.due("the first that isn't the same ends it", x.build(8), 2);
        Check.due("order(0)", x.order(0), 10);
        Check.due("result(9)", x.result(9), 8);
        Check.ruled(x, 11, "+09?03+00?01^01=05+09");
        Check.due("build(11)", x.build(11), 3);
        Check.due("result(11)", x.result(11), 14);
    }

    private static void rings() {
        Check.part("10 RING");
        BuildEngine x = new BuildEngine();
        Check.ruled(x, 8, "+09");
        Check.ruled(x, 9, "=01+10");
        Check.ruled(x, 10, "=01=02+08");
        Check.ruled(x, 11, "+11");
        Check.ruled(x, 12, "+08");
        Check.due("build(8)", x.build(8), 5);
        counts(x, 5, 2, 0, 0);
        Check.due("result(10)", x.result(10), Check.NO_RESULT + Check.RING);
        Check.due("STEP", x.failure(10, 0, 2), 2);
        Check.due("causes(10)", x.causes(10), 0);
        Check.due("result(9)", x.result(9), Check.NO_RESULT + Check.NEEDS);
        Check.due("causes(8)", x.causes(8), 2);
        Check.due("root(8)", x.root(8), 10);
        for (int key = 8; key <= 10; key++) {
            Check.due("trace(" + key + ", -1)", x.trace(key, -1), BuildEngine.STATE);
        }
        Check.due("build(8) again", x.build(8), 5);
        counts(x, 10, 4, 0, 3);
        Check.due("build(9)", x.build(9), 5);
        Check.due("root(9)", x.root(9), 8);
        Check.due("root(10)", x.root(10), 8);
        counts(x, 15, 6, 0, 3);
        Check.due("build(11)", x.build(11), 1);
        Check.due("result(11)", x.result(11), Check.NO_RESULT + Check.RING);
        Check.due("root(11)", x.root(11), 11);
        x.build(12);
        Check.due("behind a ring no TRACE", x.trace(12, -1), BuildEngine.STATE);
        Check.due("causes(12)", x.causes(12), 3);
        Check.ruled(x, 10, "=03");
        Check.due("the ring is undone", x.build(12), 7);
        Check.due("result(12)", x.result(12), 4);
    }

    /** A KEY of the TRACE that is being BUILT is not the same. */
    private static void ringWhenLookedThrough() {
        Check.part("10 RING when looked through");
        BuildEngine x = new BuildEngine();
        x.give(0, 1);
        Check.ruled(x, 8, "+09");
        Check.ruled(x, 9, "=05");
        x.build(8);
        Check.ruled(x, 9, "+08");
        Check.due("build(9)", x.build(9), 3);
        Check.due("result(8)", x.result(8), Check.NO_RESULT + Check.RING);
        Check.due("root(9)", x.root(9), 8);
        Check.due("build(8)", x.build(8), 3);
        Check.due("root(8)", x.root(8), 9);
        // 8 has 9 in its TRACE, 9 asks for 8 only if INPUT 0 is 0: 8 is looked through while 9 is being BUILT
        Check.ruled(x, 9, "+00?01^09=00+00");
        Check.due("build(8)", x.build(8), 3);
        Check.due("result(8)", x.result(8), 1);
        Check.ruled(x, 9, "&00?02=04^99+08");
        Check.due("build(8) when 9 asks for it", x.build(8), 2);
        Check.due("RING", x.result(9), Check.NO_RESULT + Check.RING);
        Check.due("result(8)", x.result(8), Check.NO_RESULT + Check.NEEDS);
    }

    private static BuildEngine fourTargets() {
        BuildEngine x = new BuildEngine();
        x.give(0, 2);
        Check.ruled(x, 8, "+10");
        Check.ruled(x, 9, "+00");
        Check.ruled(x, 10, "+00*00");
        Check.ruled(x, 11, "+07");
        return x;
    }

    private static void all() {
        Check.part("11 all");
        BuildEngine x = fourTargets();
        Check.due("all(2)", x.all(2), BuildEngine.NONE);
        Check.due("all(-1)", x.all(-1), BuildEngine.NONE);
        Check.due("told(0)", x.told(0), 0);
        Check.due("all(1)", x.all(1), 4);
        Check.due("told(10)", x.told(10), 11);
        Check.due("order(0)", x.order(0), 10);
        Check.due("order(1)", x.order(1), 8);
        Check.due("order(2)", x.order(2), 9);
        Check.due("order(3)", x.order(3), 11);
        Check.due("result(12)", x.result(12), Check.NO_RESULT);
        Check.due("all(0)", x.all(0), 16);
        Check.due("told(10)", x.told(10), Check.NOT_SO);
        Check.due("told(2)", x.told(2), 4);
        Check.due("result(23)", x.result(23), Check.NO_RESULT + Check.EMPTY);
        x.give(7, 1);
        for (int key = 12; key < 24; key++) {
            Check.ruled(x, key, "=01");
        }
        Check.due("all(1) without FAILURES", x.all(1), 16);
        Check.due("told(10)", x.told(10), Check.NOT_SO);
        x.drop(23);
        Check.due("all(1) with the last one's", x.all(1), 16);
        Check.due("told(10)", x.told(10), 23);
        Check.due("build(23) isn't STOPPED", x.build(23), 0);
        Check.due("told(10)", x.told(10), Check.NOT_SO);
    }

    private static void some() {
        Check.part("12 some");
        BuildEngine x = fourTargets();
        Check.due("some(65536, 2)", x.some(65536, 2), BuildEngine.BAD);
        Check.due("some(-1, 0)", x.some(-1, 0), BuildEngine.BAD);
        Check.due("some(1, 2)", x.some(1, 2), BuildEngine.NONE);
        Check.due("some(1, -1)", x.some(1, -1), BuildEngine.NONE);
        Check.due("told(0)", x.told(0), 0);
        Check.due("some of 8", x.some(Check.set(8), 1), 2);
        Check.due("some of none", x.some(0, 1), 0);
        Check.due("told(9)", x.told(9), 0);
        Check.due("order(0)", x.order(0), Check.NOT_SO);
        Check.due("some STOPPING", x.some(Check.set(9, 11, 20), 1), 2);
        Check.due("told(10)", x.told(10), 11);
        Check.due("result(20)", x.result(20), Check.NO_RESULT);
        Check.due("some going on", x.some(Check.set(9, 11, 20), 0), 3);
        Check.due("told(10)", x.told(10), Check.NOT_SO);
        Check.due("result(20)", x.result(20), Check.NO_RESULT + Check.EMPTY);
        Check.due("some of 65535", x.some(65535, 0), 16);
        // 12 needs 11, which fails, but isn't told: the BUILD is STOPPED by 12
        Check.ruled(x, 12, "+11");
        Check.due("STOPPED by one that is told", x.some(Check.set(12, 13), 1), 2);
        Check.due("told(10)", x.told(10), 12);
        // 9 has seen 10; it is looked through, so 10 is BUILT and fails for it, ahead of its own turn
        Check.ruled(x, 9, "+10+00");
        x.build(9);
        Check.ruled(x, 10, "+07");
        Check.ruled(x, 8, "=01");
        Check.due("DONE on the way", x.some(Check.set(8, 9, 10), 1), 3);
        Check.due("told(10)", x.told(10), 9);
    }

    private static void tried() {
        Check.part("13 tried");
        BuildEngine x = fourTargets();
        Check.due("tried(7, 0, 0)", x.tried(7, 0, 0), BuildEngine.NONE);
        Check.due("tried(24, 0, 0)", x.tried(24, 0, 0), BuildEngine.NONE);
        Check.due("tried(8, 8, 0)", x.tried(8, 8, 0), BuildEngine.NONE);
        Check.due("tried(8, -1, 1000001)", x.tried(8, -1, 1000001), BuildEngine.NONE);
        Check.due("tried(8, 0, 1000001)", x.tried(8, 0, 1000001), BuildEngine.BAD);
        Check.due("tried(8, 0, -1000001)", x.tried(8, 0, -1000001), BuildEngine.BAD);
        Check.due("tried(8, 0, 5)", x.tried(8, 0, 5), 3);
        Check.due("nothing of it stays: result(8)", x.result(8), Check.NO_RESULT);
        Check.due("trace(8, -1)", x.trace(8, -1), BuildEngine.STATE);
        Check.due("result(0)", x.result(0), 2);
        counts(x, 0, 0, 0, 0);
        x.all(1);
        Check.due("tried(8, 0, 2)", x.tried(8, 0, 2), 0);
        Check.due("tried(8, 0, -2)", x.tried(8, 0, -2), 1);
        Check.due("tried(8, 0, 3)", x.tried(8, 0, 3), 2);
        Check.due("tried(8, 1, 3)", x.tried(8, 1, 3), 0);
        Check.due("tried(11, 7, 3)", x.tried(11, 7, 3), 1);
        Check.due("tried(20, 7, 3)", x.tried(20, 7, 3), 0);
        Check.due("result(8)", x.result(8), 4);
        Check.due("result(7)", x.result(7), Check.NO_RESULT + Check.EMPTY);
        Check.due("result(20)", x.result(20), Check.NO_RESULT);
        Check.due("told(9)", x.told(9), 4);
        Check.due("told(10)", x.told(10), 11);
        Check.due("order(0)", x.order(0), 10);
        Check.due("seen(8, 0)", x.seen(8, 0), 4);
        counts(x, 5, 1, 0, 0);
    }

    private static void told() {
        Check.part("27 told");
        BuildEngine x = fourTargets();
        Check.due("told(-1)", x.told(-1), BuildEngine.NONE);
        Check.due("told(11)", x.told(11), BuildEngine.NONE);
        Check.due("told(4)", x.told(4), 4);
        x.some(Check.set(8, 11, 20), 0);
        Check.due("told(5)", x.told(5), 4);
        Check.due("told(6)", x.told(6), 2);
        Check.due("told(7)", x.told(7), 3);
        Check.due("told(9)", x.told(9), 4);
        x.feed('=');
        Check.due("told(8)", x.told(8), 1);
        x.build(9);
        Check.due("told(5)", x.told(5), 5);
        Check.due("told(9)", x.told(9), 1);
        Check.due("told(0)", x.told(0), 5);
        Check.due("told(1)", x.told(1), 1);
        x.drop(8);
        Check.due("told(4)", x.told(4), 3);
        Check.due("told(5)", x.told(5), 5);
        Check.due("told(7)", x.told(7), 3);
    }
}
