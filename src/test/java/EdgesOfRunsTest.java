/** Terms, part 1: the bounds of CONTENTS, RULES and RUNS, sign by sign, and what asking comes to. */
public final class EdgesOfRunsTest {
    private static final int HAS_NONE = Integer.MIN_VALUE;
    private static final String ASKING = "+-*/&", NOT_ASKING = "=%!?^";

    public static void main(String[] args) {
        contents();
        steps();
        atFirst();
        plusAndLess();
        times();
        over();
        overBehindEachStep();
        cut();
        rest();
        figures();
        told();
        passedOver();
        passedOverBelow();
        passedOverIsNotLookedAt();
        emptyInputs();
        whatIsAskedFor();
        ringsAndPutOffs();
        Check.end();
    }

    /** TARGET 8 with a RULE, the INPUTS 0, 1, .. with CONTENTS. */
    private static BuildEngine built(String rule, int... contents) {
        BuildEngine x = new BuildEngine();
        for (int key = 0; key < contents.length; key++) {
            if (contents[key] != HAS_NONE) {
                Check.due("give(" + key + ", " + contents[key] + ")", x.give(key, contents[key]), 1);
            }
        }
        Check.ruled(x, 8, rule);
        Check.due("build(8) of " + rule, x.build(8), 1);
        return x;
    }

    private static String call(String rule, int... contents) {
        StringBuilder told = new StringBuilder(rule).append(" of");
        for (int v : contents) {
            told.append(' ').append(v == HAS_NONE ? "none" : "" + v);
        }
        return told.toString();
    }

    private static void comesTo(int content, String rule, int... contents) {
        BuildEngine x = built(rule, contents);
        Check.due(call(rule, contents), x.result(8), content);
        Check.due(call(rule, contents) + ": causes(8)", x.causes(8), Check.NOT_SO);
    }

    private static void fails(int sort, int step, String rule, int... contents) {
        BuildEngine x = built(rule, contents);
        Check.due(call(rule, contents), x.result(8), Check.NO_RESULT + sort);
        Check.due(call(rule, contents) + ": KEY", x.failure(8, 0, 0), 8);
        Check.due(call(rule, contents) + ": SORT", x.failure(8, 0, 1), sort);
        Check.due(call(rule, contents) + ": STEP", x.failure(8, 0, 2), step);
        Check.due(call(rule, contents) + ": CAUSES", x.causes(8), sort == Check.NEEDS ? 1 : 0);
    }

    private static void contents() {
        Check.part("a CONTENT is a number (-1000000 .. 1000000)");
        for (int v : new int[] {-1000000, -999999, -1, 0, 1, 999999, 1000000}) {
            comesTo(v, "+00", v);
            comesTo(v, "&00", v);
            comesTo(-v, "-00", v);
        }
    }

    private static void steps() {
        Check.part("a RULE has 1 .. 12 STEPS; behind the last one v is the CONTENT");
        String rule = "";
        for (int length = 1; length <= 12; length++) {
            rule += "+00";
            comesTo(3 * length, rule, 3);
            fails(Check.NOUGHT, length - 1, rule.substring(3) + "%00", 3);
            fails(Check.NEEDS, length - 1, rule.substring(3) + "+07", 3);
            if (length > 1) {
                fails(Check.TOLD, length - 1, rule.substring(3) + "!00", 3);
                fails(Check.OVER, length - 1, rule.substring(3) + "*01", 3, 1000000);
            }
        }
    }

    private static void atFirst() {
        Check.part("v is 0 at first");
        comesTo(5, "+00", 5);
        comesTo(-5, "-00", 5);
        comesTo(0, "*00", 5);
        comesTo(0, "/00", 5);
        comesTo(0, "%07");
        comesTo(0, "!00");
        comesTo(0, "?01=05");
        comesTo(5, "^01=05");
    }

    private static void plusAndLess() {
        Check.part("+ n: v plus the CONTENT of KEY n; - n: v less it");
        comesTo(1000000, "+00+01", 999999, 1);
        comesTo(-1000000, "+00+01", -999999, -1);
        comesTo(0, "+00+01", 1000000, -1000000);
        comesTo(0, "+00-01", 1000000, 1000000);
        comesTo(1000000, "+00-01", 999999, -1);
        comesTo(-1000000, "+00-01", -999999, 1);
    }

    private static void times() {
        Check.part("* n: v times it");
        comesTo(1000000, "+00*01", 1000, 1000);
        comesTo(-1000000, "+00*01", 1000, -1000);
        comesTo(1000000, "+00*01", -1000, -1000);
        comesTo(1000000, "+00*01", 1000000, 1);
        comesTo(-1000000, "+00*01", 1000000, -1);
        comesTo(0, "+00*01", 1000000, 0);
        comesTo(0, "+00*01", 0, -1000000);
    }

    /** The products are such that 32 bits of them would look like a CONTENT. */
    private static void over() {
        Check.part("OVER: what it comes to can't be a CONTENT");
        fails(Check.OVER, 1, "+00+01", 1000000, 1);
        fails(Check.OVER, 1, "+00+01", -1000000, -1);
        fails(Check.OVER, 1, "+00-01", 1000000, -1);
        fails(Check.OVER, 1, "+00-01", -1000000, 1);
        fails(Check.OVER, 1, "+00+00", 1000000);
        fails(Check.OVER, 1, "-00-00", 1000000);
        fails(Check.OVER, 1, "+00*01", 1000, 1001);
        fails(Check.OVER, 1, "+00*01", -1000, 1001);
        fails(Check.OVER, 1, "+00*01", 500001, 2);
        fails(Check.OVER, 1, "+00*01", 65536, 65536);
        fails(Check.OVER, 1, "+00*01", -65536, 65536);
        fails(Check.OVER, 1, "+00*01", 65537, 65537);
        fails(Check.OVER, 1, "+00*01", 1000000, 1000000);
        fails(Check.OVER, 1, "+00*01", -1000000, 1000000);
        fails(Check.OVER, 1, "+00*01", -1000000, -1000000);
    }

    private static void overBehindEachStep() {
        Check.part("OVER is looked at behind each STEP");
        fails(Check.OVER, 1, "+00+01-01", 1000000, 1);
        fails(Check.OVER, 1, "-00-01+01", 1000000, 1);
        fails(Check.OVER, 1, "+00*01/01", 1000000, 2);
        fails(Check.OVER, 1, "+00*00=07", 1001);
        fails(Check.OVER, 1, "+00+00&01", 1000000, 1);
        fails(Check.OVER, 1, "+00+00!00", 1000000);
        fails(Check.OVER, 1, "+00+00+02", 1000000, 1, HAS_NONE);
        comesTo(1000000, "+00+01-01+01-01+01-01", 1000000, 0);
    }

    private static void cut() {
        Check.part("/ n: v over it, cut towards 0 (NOUGHT, if it is 0)");
        comesTo(3, "+00/01", 7, 2);
        comesTo(-3, "+00/01", -7, 2);
        comesTo(-3, "+00/01", 7, -2);
        comesTo(3, "+00/01", -7, -2);
        comesTo(0, "+00/01", 1, 2);
        comesTo(0, "+00/01", -1, 2);
        comesTo(0, "+00/01", 999999, 1000000);
        comesTo(0, "+00/01", -999999, 1000000);
        comesTo(1, "+00/01", 1000000, 1000000);
        comesTo(-1000000, "+00/01", 1000000, -1);
        comesTo(1000000, "+00/01", -1000000, -1);
        comesTo(0, "+00/01", 0, 1);
        fails(Check.NOUGHT, 1, "+00/01", 7, 0);
        fails(Check.NOUGHT, 1, "+00/01", 0, 0);
        fails(Check.NOUGHT, 0, "/00", 0);
        fails(Check.NOUGHT, 1, "+00/01=05", -1000000, 0);
    }

    private static void rest() {
        Check.part("% n: the rest of v over n (with v's sign; NOUGHT, if n is 0)");
        comesTo(1, "+00%03", 7);
        comesTo(-1, "+00%03", -7);
        comesTo(0, "+00%03", -6);
        comesTo(0, "+00%01", 7);
        comesTo(0, "+00%01", -1000000);
        comesTo(98, "+00%99", 98);
        comesTo(0, "+00%99", 99);
        comesTo(-98, "+00%99", -98);
        comesTo(1, "+00%99", 1000000);
        fails(Check.NOUGHT, 1, "+00%00", 7);
        fails(Check.NOUGHT, 1, "+00%00", 0);
        fails(Check.NOUGHT, 0, "%00");
    }

    private static void figures() {
        Check.part("= n: n, of two figures");
        for (int n = 0; n < 100; n++) {
            comesTo(n, "=" + Check.two(n));
        }
        comesTo(0, "+00=00", 1000000);
        comesTo(99, "+00=99", -1000000);
    }

    private static void told() {
        Check.part("! n: TOLD, if v is above n");
        for (int n : new int[] {0, 1, 9, 10, 50, 98, 99}) {
            comesTo(n, "+00!" + Check.two(n), n);
            comesTo(n - 1, "+00!" + Check.two(n), n - 1);
            comesTo(-1000000, "+00!" + Check.two(n), -1000000);
            fails(Check.TOLD, 1, "+00!" + Check.two(n), n + 1);
            fails(Check.TOLD, 1, "+00!" + Check.two(n), 1000000);
        }
    }

    private static void passedOver() {
        Check.part("? n: if v is 0, the next n STEPS are passed over (all, if there are fewer)");
        comesTo(6, "+00?01=05=06", 0);
        comesTo(6, "+00?01=05+01", 1, 1);
        comesTo(9, "+00?01=05+01", -1, 4);
        comesTo(5, "?00=05");
        comesTo(1, "?00+00", 1);
        comesTo(0, "?01=05");
        comesTo(0, "?02=05");
        comesTo(0, "?99=05");
        comesTo(0, "?01");
        comesTo(0, "?99");
        String rest = "=01=02=03=04=05=06=07=08=09=10=11";
        for (int n = 0; n < 11; n++) {
            comesTo(11, "?" + Check.two(n) + rest);
        }
        for (int n = 11; n < 100; n++) {
            comesTo(0, "?" + Check.two(n) + rest);
        }
        comesTo(1, "+00?02*00+01", 1, 0);
        comesTo(3, "?01?03=03");
        comesTo(3, "?02=05?03=03");
        comesTo(0, "?01=05?01=06");
        comesTo(-2, "+00?99-01+02", -2, 0, 0);
    }

    private static void passedOverBelow() {
        Check.part("^ n: if v is below 0, likewise");
        comesTo(-1, "+00^01=05", -1);
        comesTo(-1000000, "+00^01=05", -1000000);
        comesTo(5, "+00^01=05", 0);
        comesTo(5, "+00^01=05", 1);
        comesTo(5, "+00^00=05", -1);
        comesTo(6, "+00^01=05=06", -1);
        comesTo(-1, "+00^99=05", -1);
        comesTo(-1, "+00^02=05", -1);
        String rest = "=01=02=03=04=05=06=07=08=09=10";
        for (int n = 0; n < 10; n++) {
            comesTo(10, "+00^" + Check.two(n) + rest, -3);
        }
        for (int n = 10; n < 100; n++) {
            comesTo(-3, "+00^" + Check.two(n) + rest, -3);
        }
        comesTo(3, "+00^01^02=03", -3);
    }

    private static void passedOverIsNotLookedAt() {
        Check.part("STEPS that are passed over do nothing");
        comesTo(0, "?01/00", 0);
        comesTo(0, "?01%00");
        comesTo(0, "?01+07");
        comesTo(0, "?01+08");
        comesTo(0, "?01+23");
        comesTo(-1, "+00^02*01*01", -1, 1000000);
        BuildEngine x = built("?02+00+09=01&00", 4);
        Check.due("only what is asked for is in the TRACE", x.trace(8, -1), 1);
        Check.due("trace(8, 0)", x.trace(8, 0), 0);
        Check.due("what isn't asked for isn't BUILT", x.result(9), Check.NO_RESULT);
    }

    private static void emptyInputs() {
        Check.part("an INPUT without a CONTENT has the FAILURE EMPTY (of its KEY, STEP -1)");
        for (int key = 0; key < 8; key++) {
            BuildEngine x = built("+" + Check.two(key));
            Check.due("NEEDS", x.result(8), Check.NO_RESULT + Check.NEEDS);
            Check.due("its KEY", x.failure(8, 1, 0), key);
            Check.due("its SORT", x.failure(8, 1, 1), Check.EMPTY);
            Check.due("its STEP", x.failure(8, 1, 2), -1);
            Check.due("no more CAUSES", x.failure(8, 2, 0), BuildEngine.STATE);
            x.give(key, 0);
            x.build(8);
            Check.due("0 is a CONTENT", x.result(8), 0);
            x.take(key);
            x.build(8);
            Check.due("taken", x.result(8), Check.NO_RESULT + Check.NEEDS);
        }
    }

    private static void whatIsAskedFor() {
        Check.part("+ - * / & ask for the CONTENT of KEY n, the other signs don't");
        for (char sign : ASKING.toCharArray()) {
            for (int key = 0; key < 8; key++) {
                fails(Check.NEEDS, 0, sign + Check.two(key));
                fails(Check.NEEDS, 1, "=01" + sign + Check.two(key));
            }
            for (int key = 9; key < 24; key++) {
                BuildEngine x = new BuildEngine();
                Check.ruled(x, 8, sign + Check.two(key));
                Check.due("it is PUT OFF once", x.build(8), 2);
                Check.due("told(1)", x.told(1), 1);
                Check.due("a TARGET without a RULE is EMPTY", x.failure(8, 1, 1), Check.EMPTY);
                Check.due("its KEY", x.failure(8, 1, 0), key);
                Check.due("its STEP", x.failure(8, 1, 2), -1);
                Check.due("trace(8, 0)", x.trace(8, 0), key);
            }
            fails(Check.RING, 0, sign + "08");
        }
        for (char sign : NOT_ASKING.toCharArray()) {
            for (int n = 1; n < 24; n++) {
                BuildEngine x = built(sign + Check.two(n));
                Check.due(sign + Check.two(n), x.result(8), sign == '=' ? n : 0);
                Check.due("nothing is asked for", x.trace(8, -1), 0);
            }
        }
    }

    private static void ringsAndPutOffs() {
        Check.part("a TARGET that is being BUILT: RING");
        for (int length = 1; length <= 16; length++) {
            BuildEngine x = new BuildEngine();
            for (int i = 0; i < length; i++) {
                Check.ruled(x, 8 + i, "+" + Check.two(8 + (i + 1) % length));
            }
            Check.due("a ring of " + length, x.build(8), 2 * length - 1);
            Check.due("told(1)", x.told(1), length - 1);
            Check.due("root(8)", x.root(8), 7 + length);
            Check.due("the ROOT is RING", x.result(7 + length), Check.NO_RESULT + Check.RING);
            Check.due("causes(8)", x.causes(8), length - 1);
            Check.due("STEP", x.failure(8, length - 1, 2), 0);
            Check.due("a RING has no CAUSE", x.causes(7 + length), 0);
        }
        Check.part("one that isn't DONE: the RUN is PUT OFF; that is BUILT, then the RUN is begun anew");
        BuildEngine x = new BuildEngine();
        Check.ruled(x, 8, "+09+10+11+12+13+14+15+16+17+18+19+20");
        for (int key = 9; key < 21; key++) {
            Check.ruled(x, key, "=" + Check.two(key));
        }
        Check.due("PUT OFF for each of 12", x.build(8), 25);
        Check.due("told(1)", x.told(1), 12);
        Check.due("result(8)", x.result(8), 174);
        Check.due("trace(8, -1), of the last RUN", x.trace(8, -1), 12);
        Check.ruled(x, 8, "+09+09+09");
        Check.due("asked for thrice, PUT OFF once", x.build(8), 2);
        Check.due("trace(8, -1), each once", x.trace(8, -1), 1);
    }
}
