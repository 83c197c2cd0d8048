/** Promises 1 to 9: a new object, INPUTS, THE TAPE, RULES. */
public final class RulesTest {
    public static void main(String[] args) {
        newObject();
        giveAndTake();
        tape();
        ruleFromText();
        faults();
        faultsOfFigures();
        dropAndCopy();
        steps();
        Check.end();
    }

    private static void newObject() {
        Check.part("1 a new object");
        BuildEngine x = new BuildEngine();
        for (int key = 0; key < 8; key++) {
            Check.due("result(" + key + ")", x.result(key), Check.NO_RESULT + Check.EMPTY);
            Check.due("take(" + key + ")", x.take(key), BuildEngine.STATE);
        }
        for (int key = 8; key < 24; key++) {
            Check.due("result(" + key + ")", x.result(key), Check.NO_RESULT);
            Check.due("step(" + key + ", -1)", x.step(key, -1), BuildEngine.STATE);
            Check.due("trace(" + key + ", -1)", x.trace(key, -1), BuildEngine.STATE);
        }
        for (int what = 0; what < 10; what++) {
            Check.due("told(" + what + ")", x.told(what), 0);
        }
        Check.due("told(10)", x.told(10), Check.NOT_SO);
        Check.due("get(0, 0)", x.get(0, 0), BuildEngine.NO);
        Check.due("undo()", x.undo(), BuildEngine.STATE);
        Check.due("NO", BuildEngine.NO, Long.MIN_VALUE);
    }

    private static void giveAndTake() {
        Check.part("2 give");
        BuildEngine x = new BuildEngine();
        Check.due("give(0, 0)", x.give(0, 0), 1);
        Check.due("give(0, 0) again", x.give(0, 0), 0);
        Check.due("give(0, -1000000)", x.give(0, -1000000), 1);
        Check.due("give(7, 1000000)", x.give(7, 1000000), 1);
        Check.due("give(7, 1000001)", x.give(7, 1000001), BuildEngine.BAD);
        Check.due("give(0, -1000001)", x.give(0, -1000001), BuildEngine.BAD);
        Check.due("give(0, MIN)", x.give(0, Integer.MIN_VALUE), BuildEngine.BAD);
        Check.due("give(8, 1000001)", x.give(8, 1000001), BuildEngine.NONE);
        Check.due("give(-1, 0)", x.give(-1, 0), BuildEngine.NONE);
        Check.due("give(MAX, 0)", x.give(Integer.MAX_VALUE, 0), BuildEngine.NONE);
        Check.due("result(0)", x.result(0), -1000000);
        Check.due("result(7)", x.result(7), 1000000);

        Check.part("3 take");
        Check.due("take(0)", x.take(0), -1000000);
        Check.due("take(0) again", x.take(0), BuildEngine.STATE);
        Check.due("result(0)", x.result(0), Check.NO_RESULT + Check.EMPTY);
        Check.due("give(0, -1000000)", x.give(0, -1000000), 1);
        Check.due("take(8)", x.take(8), BuildEngine.NONE);
        Check.due("take(-1)", x.take(-1), BuildEngine.NONE);
        Check.due("result(7)", x.result(7), 1000000);
    }

    private static void tape() {
        Check.part("4 feed");
        BuildEngine x = new BuildEngine();
        Check.due("feed(0)", x.feed(0), BuildEngine.BAD);
        Check.due("feed(128)", x.feed(128), BuildEngine.BAD);
        Check.due("feed(-1)", x.feed(-1), BuildEngine.BAD);
        Check.due("feed(1)", x.feed(1), 1);
        Check.due("feed(127)", x.feed(127), 2);
        for (int i = 3; i <= 50; i++) {
            Check.due("feed", x.feed('='), i);
        }
        Check.due("feed when full", x.feed('='), BuildEngine.FULL);
        Check.due("feed(0) when full", x.feed(0), BuildEngine.BAD);
        Check.due("told(8)", x.told(8), 50);
        Check.part("5 clear");
        Check.due("clear()", x.clear(), 50);
        Check.due("clear() again", x.clear(), 0);
        Check.due("told(8)", x.told(8), 0);
        Check.due("feed behind clear", x.feed('='), 1);
    }

    private static void ruleFromText() {
        Check.part("6 rule");
        BuildEngine x = new BuildEngine();
        Check.due("one STEP", Check.rule(x, 8, "=05"), 1);
        Check.due("told(8)", x.told(8), 0);
        Check.due("twelve STEPS", Check.rule(x, 23, "+00-01*02/03&23=99%99!99?99^99=00&00"), 12);
        Check.due("told(4)", x.told(4), 2);
        x.build(8);
        Check.due("trace", x.trace(8, -1), 0);
        Check.due("FAULT", Check.rule(x, 8, "=0"), -102);
        Check.due("told(8) behind FAULT", x.told(8), 0);
        Check.due("the RULE stays by FAULT", x.step(8, 0), 100 * '=' + 5);
        Check.due("the TRACE stays by FAULT", x.trace(8, -1), 0);
        Check.text(x, "=06");
        Check.due("rule(7)", x.rule(7), BuildEngine.NONE);
        Check.due("rule(24)", x.rule(24), BuildEngine.NONE);
        Check.due("rule(-1)", x.rule(-1), BuildEngine.NONE);
        Check.due("THE TAPE stays by NONE", x.told(8), 3);
        Check.due("rule(8)", x.rule(8), 1);
        Check.due("the RESULT stays by a new RULE", x.result(8), 5);
        Check.due("the TRACE doesn't", x.trace(8, -1), BuildEngine.STATE);
        Check.due("build(8)", x.build(8), 1);
        Check.due("result(8)", x.result(8), 6);
    }

    private static void faults() {
        Check.part("6 FAULT");
        BuildEngine x = new BuildEngine();
        String[] texts = {
            "", "+", "+0", "x", "0", "+x", "+0x", "+00x", "+00+", "+24", "-99", "*30", "/24", "&24", "+23+24",
            "=24", "%99", "?24", "^99", "!50", "=0=", "=00=0x", "+00+00+00+00+00+00+00+00+00+00+00+0",
            "=00=00=00=00=00=00=00=00=00=00=00=00=", "=00=00=00=00=00=00=00=00=00=00=00=00x", "+24x", "=00+30=x",
            " =00", "=00 ", "+ 0", "-8", "+3", "+3x", "+2x", "&9+", "=00/7", "=9",
        };
        int[] answers = {
            -100, -101, -102, -100, -100, -101, -102, -103, -104, -101, -101, -101, -101, -101, -104,
            1, 1, 1, 1, 1, -102, -105, -135,
            -136, -136, -101, -104,
            -100, -103, -101, -101, -101, -101, -102, -101, -104, -102,
        };
        for (int i = 0; i < texts.length; i++) {
            Check.due("rule of '" + texts[i] + "'", Check.rule(x, 9, texts[i]), answers[i]);
            Check.due("told(8)", x.told(8), 0);
        }
    }

    /** Each sign, each first figure, at each STEP: by itself, and with each second figure. */
    private static void faultsOfFigures() {
        Check.part("6 FAULT of figures");
        String before = "";
        for (int step = 0; step < 12; step++) {
            for (char sign : "+-*/&=%!?^".toCharArray()) {
                boolean tellsKey = "+-*/&".indexOf(sign) >= 0;
                for (int first = 0; first < 10; first++) {
                    BuildEngine x = new BuildEngine();
                    String text = before + sign + first;
                    int figures = before.length() + 1;
                    boolean goesOn = !tellsKey || first <= 2;
                    int due = goesOn ? -100 - text.length() : -100 - figures;
                    Check.due("rule of '" + text + "'", Check.rule(x, 9, text), due);
                    Check.due("rule of '" + text + "x'", Check.rule(x, 9, text + "x"), due);
                    for (int second = 0; second < 10; second++) {
                        boolean fits = !tellsKey || 10 * first + second < 24;
                        Check.due("rule of '" + text + second + "'", Check.rule(x, 9, text + second),
                            fits ? step + 1 : -100 - figures);
                    }
                }
            }
            before += "=00";
        }
        BuildEngine x = new BuildEngine();
        Check.due("behind the last STEP", Check.rule(x, 9, before + "+9"), -136);
        Check.due("behind the last STEP", Check.rule(x, 9, before + "+99"), -136);
    }

    private static void dropAndCopy() {
        Check.part("7 drop");
        BuildEngine x = new BuildEngine();
        Check.ruled(x, 8, "=05+00");
        x.give(0, 1);
        x.build(8);
        Check.due("drop(7)", x.drop(7), BuildEngine.NONE);
        Check.due("drop(24)", x.drop(24), BuildEngine.NONE);
        Check.due("drop(9)", x.drop(9), BuildEngine.STATE);
        Check.due("trace(8, -1)", x.trace(8, -1), 1);
        Check.due("drop(8)", x.drop(8), 2);
        Check.due("drop(8) again", x.drop(8), BuildEngine.STATE);
        Check.due("the RESULT stays", x.result(8), 6);
        Check.due("the TRACE doesn't", x.trace(8, -1), BuildEngine.STATE);
        Check.due("told(4)", x.told(4), 0);

        Check.part("8 copy");
        Check.due("copy(8, 9)", x.copy(8, 9), BuildEngine.STATE);
        Check.ruled(x, 8, "+00=07");
        Check.ruled(x, 9, "=01");
        x.all(0);
        Check.due("copy(8, 7)", x.copy(8, 7), BuildEngine.NONE);
        Check.due("copy(7, 8)", x.copy(7, 8), BuildEngine.NONE);
        Check.due("copy(24, 7)", x.copy(24, 7), BuildEngine.NONE);
        Check.due("copy(10, 24)", x.copy(10, 24), BuildEngine.NONE);
        Check.due("copy(10, 8)", x.copy(10, 8), BuildEngine.STATE);
        Check.due("trace(8, -1)", x.trace(8, -1), 1);
        Check.due("copy(8, 9)", x.copy(8, 9), 2);
        Check.due("step(9, 0)", x.step(9, 0), 100 * '+');
        Check.due("step(9, 1)", x.step(9, 1), 100 * '=' + 7);
        Check.due("step(9, 2)", x.step(9, 2), BuildEngine.NONE);
        Check.due("the other's RESULT stays", x.result(9), 1);
        Check.due("the other's TRACE doesn't", x.trace(9, -1), BuildEngine.STATE);
        Check.due("the first's TRACE stays", x.trace(8, -1), 1);
        Check.ruled(x, 8, "=02");
        Check.due("the copy is no share", x.step(9, 0), 100 * '+');
        x.build(8);
        Check.due("copy(8, 8)", x.copy(8, 8), 1);
        Check.due("a RULE copied onto itself is new", x.trace(8, -1), BuildEngine.STATE);
    }

    private static void steps() {
        Check.part("9 step");
        BuildEngine x = new BuildEngine();
        String text = "+01-02*03/04&05=06%07!08?09^10=11=99";
        Check.ruled(x, 8, text);
        for (int i = 0; i < 12; i++) {
            int n = Integer.parseInt(text.substring(3 * i + 1, 3 * i + 3));
            Check.due("step(8, " + i + ")", x.step(8, i), 100 * text.charAt(3 * i) + n);
        }
        Check.due("step(8, -1)", x.step(8, -1), 12);
        Check.due("step(8, 12)", x.step(8, 12), BuildEngine.NONE);
        Check.due("step(8, MAX)", x.step(8, Integer.MAX_VALUE), BuildEngine.NONE);
        Check.due("step(8, -2)", x.step(8, -2), BuildEngine.NONE);
        Check.due("step(9, -2)", x.step(9, -2), BuildEngine.NONE);
        Check.due("step(9, -1)", x.step(9, -1), BuildEngine.STATE);
        Check.due("step(9, 0)", x.step(9, 0), BuildEngine.STATE);
        Check.due("step(7, 0)", x.step(7, 0), BuildEngine.NONE);
        Check.due("step(24, 0)", x.step(24, 0), BuildEngine.NONE);
    }
}
