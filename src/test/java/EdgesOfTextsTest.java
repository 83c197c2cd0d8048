/** Terms, part 2, and promises 4 to 9: the bounds of THE TAPE, of RULES as texts, their FAULTS, and STEPS. */
public final class EdgesOfTextsTest {
    private static final String SIGNS = "+-*/&=%!?^", KEY_SIGNS = "+-*/&", TWELVE = "=00".repeat(12);

    public static void main(String[] args) {
        letters();
        tapeLength();
        cleared();
        lengthsOfRules();
        signs();
        firstFigures();
        secondFigures();
        keysBelow24();
        firstOfTwoFaults();
        endsTooEarly();
        behindTheLastStep();
        aFaultDoesNothing();
        theTapeIsEmptyBehind();
        newRule();
        dropped();
        copied();
        stepsAsTold();
        Check.end();
    }

    private static int ruleOf(String text) {
        return Check.rule(new BuildEngine(), 9, text);
    }

    private static void letters() {
        Check.part("4 feed: a byte (1 .. 127); BAD");
        for (int from = 1; from <= 127; from += 50) {
            BuildEngine x = new BuildEngine();
            for (int letter = from; letter < from + 50 && letter <= 127; letter++) {
                Check.due("feed(" + letter + ")", x.feed(letter), letter - from + 1);
            }
        }
        int[] bad = {Integer.MIN_VALUE, -127, -1, 0, 128, 129, 255, 256, 256 + 43, 65536 + 43, Integer.MAX_VALUE};
        BuildEngine x = new BuildEngine();
        for (int letter : bad) {
            Check.due("feed(" + letter + ")", x.feed(letter), BuildEngine.BAD);
            Check.due("told(8)", x.told(8), 0);
        }
    }

    private static void tapeLength() {
        Check.part("THE TAPE holds 0 .. 50 bytes; 4 feed FULL");
        BuildEngine x = new BuildEngine();
        Check.due("told(8) at first", x.told(8), 0);
        for (int length = 1; length <= 50; length++) {
            Check.due("feed", x.feed('='), length);
            Check.due("told(8)", x.told(8), length);
        }
        Check.due("the 51st", x.feed('='), BuildEngine.FULL);
        Check.due("told(8)", x.told(8), 50);
        Check.due("the 51st again", x.feed(1), BuildEngine.FULL);
        Check.due("clear()", x.clear(), 50);
        Check.due("feed behind clear", x.feed('='), 1);
    }

    private static void cleared() {
        Check.part("5 clear: how many bytes it had");
        for (int length : new int[] {0, 1, 2, 36, 49, 50}) {
            BuildEngine x = new BuildEngine();
            Check.text(x, "+".repeat(length));
            Check.due("clear() of " + length, x.clear(), length);
            Check.due("told(8)", x.told(8), 0);
            Check.due("clear() again", x.clear(), 0);
            Check.due("what was there is gone", Check.rule(x, 8, "=01"), 1);
        }
    }

    private static void lengthsOfRules() {
        Check.part("a RULE as a text: 1 .. 12 times");
        Check.due("of none", ruleOf(""), -100);
        for (int length = 1; length <= 12; length++) {
            Check.due("of " + length, ruleOf("+23".repeat(length)), length);
            Check.due("of " + length, ruleOf("^99".repeat(length)), length);
        }
        for (int length = 13; length <= 16; length++) {
            Check.due("of " + length, ruleOf("+23".repeat(length)), -136);
        }
        Check.due("of a full TAPE", ruleOf("=00".repeat(16) + "=0"), -136);
    }

    private static void signs() {
        Check.part("FAULT: a sign (+ - * / & = % ! ? ^)");
        for (int letter = 1; letter < 128; letter++) {
            boolean isSign = SIGNS.indexOf(letter) >= 0;
            Check.due("byte " + letter, ruleOf((char) letter + "00"), isSign ? 1 : -100);
            Check.due("byte " + letter + " alone", ruleOf("" + (char) letter), isSign ? -101 : -100);
            Check.due("byte " + letter + " in the second STEP", ruleOf("=00" + (char) letter + "00"), isSign ? 2 : -103);
            Check.due("byte " + letter + " in the 12th STEP", ruleOf(TWELVE.substring(3) + (char) letter + "00"),
                isSign ? 12 : -133);
        }
    }

    private static void firstFigures() {
        Check.part("FAULT: the first figure");
        for (int letter = 1; letter < 128; letter++) {
            boolean isFigure = letter >= '0' && letter <= '9';
            Check.due("=, byte " + letter, ruleOf("=" + (char) letter + "0"), isFigure ? 1 : -101);
            Check.due("=, byte " + letter + " last", ruleOf("=" + (char) letter), isFigure ? -102 : -101);
            boolean goesOn = letter >= '0' && letter <= '2';
            Check.due("+, byte " + letter, ruleOf("+" + (char) letter + "0"), goesOn ? 1 : -101);
            Check.due("+, byte " + letter + " last", ruleOf("+" + (char) letter), goesOn ? -102 : -101);
            Check.due("12th STEP, byte " + letter, ruleOf(TWELVE.substring(0, 34) + (char) letter + "0"),
                isFigure ? 12 : -134);
        }
    }

    private static void secondFigures() {
        Check.part("FAULT: the second figure");
        for (int letter = 1; letter < 128; letter++) {
            boolean isFigure = letter >= '0' && letter <= '9';
            Check.due("=9, byte " + letter, ruleOf("=9" + (char) letter), isFigure ? 1 : -102);
            Check.due("=0, byte " + letter, ruleOf("=0" + (char) letter), isFigure ? 1 : -102);
            Check.due("+1, byte " + letter, ruleOf("+1" + (char) letter), isFigure ? 1 : -102);
            boolean isBelow24 = letter >= '0' && letter <= '3';
            Check.due("+2, byte " + letter, ruleOf("+2" + (char) letter), isBelow24 ? 1 : isFigure ? -101 : -102);
            Check.due("12th STEP, byte " + letter, ruleOf(TWELVE.substring(0, 35) + (char) letter), isFigure ? 12 : -135);
        }
    }

    private static void keysBelow24() {
        Check.part("a KEY that is told (+ - * / &) is below 24; FAULT: where they begin");
        for (char sign : SIGNS.toCharArray()) {
            boolean tellsKey = KEY_SIGNS.indexOf(sign) >= 0;
            for (int n = 0; n < 100; n++) {
                boolean fits = !tellsKey || n < 24;
                String step = sign + Check.two(n);
                Check.due(step, ruleOf(step), fits ? 1 : -101);
                Check.due("=00 " + step, ruleOf("=00" + step), fits ? 2 : -104);
                Check.due(step + " =00", ruleOf(step + "=00"), fits ? 2 : -101);
                Check.due(step + " in the 12th STEP", ruleOf(TWELVE.substring(3) + step), fits ? 12 : -134);
            }
        }
    }

    private static void firstOfTwoFaults() {
        Check.part("FAULT: the first byte with which no RULE goes on");
        String[] texts = {"x+24", "+24x", "+24+24", "=0x=0x", "+0x+24", "+24+0x", "=00x=0", "xx", "=xx", "=00+24" + TWELVE,
            TWELVE + "+24", "=x" + TWELVE, "+3+3", "+2x+24"};
        int[] dues = {-100, -101, -101, -102, -102, -101, -103, -100, -101, -104, -136, -101, -101, -102};
        for (int i = 0; i < texts.length; i++) {
            Check.due(texts[i], ruleOf(texts[i]), dues[i]);
        }
    }

    private static void endsTooEarly() {
        Check.part("FAULT: the length, if it ends too early");
        for (String whole : new String[] {TWELVE, "+23".repeat(12), "^99".repeat(12)}) {
            for (int length = 0; length <= 36; length++) {
                boolean ends = length > 0 && length % 3 == 0;
                Check.due(length + " bytes of " + whole, ruleOf(whole.substring(0, length)),
                    ends ? length / 3 : -100 - length);
            }
        }
    }

    private static void behindTheLastStep() {
        Check.part("FAULT: behind 12 STEPS no RULE goes on");
        for (int letter = 1; letter < 128; letter++) {
            Check.due("byte " + letter, ruleOf(TWELVE + (char) letter), -136);
        }
        Check.due("+24 behind", ruleOf(TWELVE + "+24"), -136);
        Check.due("+9 behind", ruleOf(TWELVE + "+9"), -136);
    }

    private static void aFaultDoesNothing() {
        Check.part("a text with a FAULT does nothing");
        String[] texts = {"", "+", "+24", "=0x", "=00=", TWELVE + "=00"};
        for (String text : texts) {
            BuildEngine x = new BuildEngine();
            x.give(0, 4);
            Check.ruled(x, 8, "+00=07");
            x.build(8);
            Check.isTrue("FAULT of '" + text + "'", Check.rule(x, 8, text) <= -100);
            Check.due("the RULE stays", x.step(8, -1), 2);
            Check.due("the RULE stays", x.step(8, 1), 100 * '=' + 7);
            Check.due("the RESULT stays", x.result(8), 7);
            Check.due("the TRACE stays", x.trace(8, -1), 1);
            Check.due("it is SPARED", x.build(8), 0);
            Check.isTrue("FAULT of '" + text + "'", Check.rule(x, 9, text) <= -100);
            Check.due("no RULE stays none", x.step(9, -1), BuildEngine.STATE);
        }
    }

    private static void theTapeIsEmptyBehind() {
        Check.part("THE TAPE is empty behind each call that reads it");
        BuildEngine x = new BuildEngine();
        Check.due("taken", Check.rule(x, 8, TWELVE), 12);
        Check.due("told(8)", x.told(8), 0);
        Check.due("rule(8) of the empty TAPE", x.rule(8), -100);
        Check.due("with a FAULT", Check.rule(x, 8, "=0"), -102);
        Check.due("told(8)", x.told(8), 0);
        Check.due("a text behind that", Check.rule(x, 8, "=01"), 1);
        Check.text(x, "=02");
        Check.due("no TARGET", x.rule(24), BuildEngine.NONE);
        Check.due("THE TAPE stays", x.told(8), 3);
        Check.due("its bytes stay", x.rule(8), 1);
        Check.due("step(8, 0)", x.step(8, 0), 100 * '=' + 2);
    }

    private static BuildEngine withTrace() {
        BuildEngine x = new BuildEngine();
        x.give(0, 4);
        Check.ruled(x, 8, "+00");
        Check.ruled(x, 9, "+00=03");
        x.some(Check.set(8, 9), 0);
        return x;
    }

    private static void newRule() {
        Check.part("a new RULE (or none): the TARGET has no TRACE then; its RESULT stays");
        BuildEngine x = withTrace();
        Check.ruled(x, 8, "+00");
        Check.due("by the same text", x.trace(8, -1), BuildEngine.STATE);
        Check.due("its RESULT stays", x.result(8), 4);
        Check.due("it is RUN", x.build(8), 1);
        Check.due("and comes to the same", x.told(3), 1);
        x.drop(8);
        Check.due("by drop", x.trace(8, -1), BuildEngine.STATE);
        Check.due("its RESULT stays", x.result(8), 4);
        x = withTrace();
        x.copy(9, 8);
        Check.due("by copy", x.trace(8, -1), BuildEngine.STATE);
        Check.due("its RESULT stays", x.result(8), 4);
        Check.due("the first's TRACE stays", x.trace(9, -1), 1);
        Check.due("it is RUN", x.build(8), 1);
        Check.due("result(8)", x.result(8), 3);
        Check.ruled(x, 10, "=01");
        Check.due("another's TRACE stays", x.trace(9, -1), 1);
    }

    private static void dropped() {
        Check.part("7 drop: how many STEPS it had; STATE: it has none");
        for (int length = 1; length <= 12; length++) {
            BuildEngine x = new BuildEngine();
            Check.due("at first", x.drop(8), BuildEngine.STATE);
            Check.ruled(x, 8, TWELVE.substring(0, 3 * length));
            Check.due("told(4)", x.told(4), 1);
            Check.due("drop(8) of " + length, x.drop(8), length);
            Check.due("again", x.drop(8), BuildEngine.STATE);
            Check.due("told(4)", x.told(4), 0);
            x.build(8);
            Check.due("a RESULT is no RULE", x.drop(8), BuildEngine.STATE);
        }
    }

    private static void copied() {
        Check.part("8 copy: how many STEPS; STATE: the first has none");
        for (int length = 1; length <= 12; length++) {
            BuildEngine x = new BuildEngine();
            Check.ruled(x, 23, "+23".repeat(length));
            Check.ruled(x, 9, "=01=02=03=04=05");
            Check.due("copy(8, 9)", x.copy(8, 9), BuildEngine.STATE);
            Check.due("step(9, -1)", x.step(9, -1), 5);
            Check.due("copy(23, 8) of " + length, x.copy(23, 8), length);
            Check.due("copy(23, 9) of " + length, x.copy(23, 9), length);
            for (int i = 0; i < length; i++) {
                Check.due("step(8, " + i + ")", x.step(8, i), 100 * '+' + 23);
                Check.due("step(9, " + i + ")", x.step(9, i), 100 * '+' + 23);
            }
            Check.due("none more", x.step(8, length), BuildEngine.NONE);
            Check.due("none more", x.step(9, length), BuildEngine.NONE);
            Check.due("onto itself", x.copy(23, 23), length);
            Check.due("it has that RULE", x.step(23, length - 1), 100 * '+' + 23);
            x.drop(23);
            Check.due("the copy stays when the first is dropped", x.step(8, -1), length);
            Check.due("and can't be taken of that then", x.copy(23, 8), BuildEngine.STATE);
        }
    }

    private static void stepsAsTold() {
        Check.part("9 step: 100 times its sign's byte, and n; i -1: how many; NONE: there is no such STEP");
        for (char sign : SIGNS.toCharArray()) {
            for (int n : new int[] {0, 1, 9, 10, 23, 24, 99}) {
                BuildEngine x = new BuildEngine();
                if (Check.rule(x, 8, sign + Check.two(n)) == 1) {
                    Check.due("step of " + sign + n, x.step(8, 0), 100 * sign + n);
                }
            }
        }
        for (int length = 1; length <= 12; length++) {
            BuildEngine x = new BuildEngine();
            Check.ruled(x, 8, TWELVE);
            Check.ruled(x, 8, "=01".repeat(length));
            Check.due("i -1", x.step(8, -1), length);
            Check.due("the first", x.step(8, 0), 100 * '=' + 1);
            Check.due("the last", x.step(8, length - 1), 100 * '=' + 1);
            Check.due("behind the last", x.step(8, length), BuildEngine.NONE);
            Check.due("far behind", x.step(8, 12), BuildEngine.NONE);
            Check.due("far behind", x.step(8, Integer.MAX_VALUE), BuildEngine.NONE);
            Check.due("below -1", x.step(8, -2), BuildEngine.NONE);
            Check.due("below -1", x.step(8, Integer.MIN_VALUE), BuildEngine.NONE);
        }
    }
}
