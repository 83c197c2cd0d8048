/** Terms, "THE IMAGE", and promises 34, 35: none, of nothing, of all, taken anew, brought back again. */
public final class EdgesOfImageTest {
    public static void main(String[] args) {
        noImage();
        ofNothing();
        howManyHaveAResult();
        inputsComeBack();
        rulesComeBack();
        resultsAndTracesComeBack();
        aTraceOfTwelveKeysComesBack();
        whatStays();
        noTargetIsDone();
        takenAnew();
        broughtBackAgain();
        Check.end();
    }

    private static void noImage() {
        Check.part("35 undo STATE: there is none");
        BuildEngine x = new BuildEngine();
        Check.due("at first", x.undo(), BuildEngine.STATE);
        x.give(0, 1);
        Check.ruled(x, 8, "+00");
        x.all(0);
        x.tried(8, 0, 2);
        Check.due("undo()", x.undo(), BuildEngine.STATE);
        Check.due("changes nothing: result(8)", x.result(8), 1);
        Check.due("told(9)", x.told(9), 16);
        Check.due("order(0)", x.order(0), 8);
        x.image();
        Check.due("there is one", x.undo(), 16);
        Check.due("and still is", x.undo(), 16);
    }

    private static void ofNothing() {
        Check.part("34 image, 35 undo: of nothing");
        BuildEngine x = new BuildEngine();
        Check.due("image()", x.image(), 0);
        Check.due("undo()", x.undo(), 0);
        for (int key = 0; key < 8; key++) {
            x.give(key, 5);
        }
        for (int key = 8; key < 24; key++) {
            Check.ruled(x, key, "+00");
        }
        x.all(0);
        Check.due("told(5)", x.told(5), 16);
        Check.due("undo()", x.undo(), 0);
        for (int what = 4; what < 10; what++) {
            Check.due("told(" + what + ")", x.told(what), 0);
        }
        for (int key = 0; key < 24; key++) {
            Check.due("result(" + key + ")", x.result(key), key < 8 ? 10000006 : 10000000);
        }
        for (int key = 8; key < 24; key++) {
            Check.due("step(" + key + ", -1)", x.step(key, -1), BuildEngine.STATE);
            Check.due("trace(" + key + ", -1)", x.trace(key, -1), BuildEngine.STATE);
        }
    }

    private static void howManyHaveAResult() {
        Check.part("34 image, 35 undo: how many TARGETS have a RESULT");
        for (int count = 0; count <= 16; count++) {
            BuildEngine x = new BuildEngine();
            Check.ruled(x, 23, "=01");
            x.some((1 << count) - 1, 0);
            Check.due("image()", x.image(), count);
            x.all(0);
            Check.due("undo()", x.undo(), count);
            Check.due("told(5)", x.told(5), count);
            x.all(0);
            Check.due("image() of all", x.image(), 16);
            for (int key = 8; key < 24; key++) {
                x.forget(key);
            }
            Check.due("undo() of all", x.undo(), 16);
            Check.due("told(5)", x.told(5), 16);
        }
    }

    private static void inputsComeBack() {
        Check.part("THE IMAGE: INPUTS");
        for (int key = 0; key < 8; key++) {
            BuildEngine x = new BuildEngine();
            x.image();
            x.give(key, 3);
            x.undo();
            Check.due("none comes back", x.take(key), BuildEngine.STATE);
            x.give(key, 4);
            x.image();
            x.give(key, 5);
            x.undo();
            Check.due("another comes back", x.result(key), 4);
            x.take(key);
            x.undo();
            Check.due("what was taken comes back", x.take(key), 4);
        }
    }

    private static void rulesComeBack() {
        Check.part("THE IMAGE: RULES");
        for (int key = 8; key < 24; key++) {
            BuildEngine x = new BuildEngine();
            x.image();
            Check.ruled(x, key, "=03");
            x.undo();
            Check.due("none comes back", x.step(key, -1), BuildEngine.STATE);
            Check.ruled(x, key, "=01=02=03=04=05=06=07=08=09=10=11=12");
            x.image();
            Check.ruled(x, key, "+09");
            x.undo();
            Check.due("a longer one comes back", x.step(key, -1), 12);
            Check.due("with its first STEP", x.step(key, 0), 100 * '=' + 1);
            Check.due("and its last", x.step(key, 11), 100 * '=' + 12);
            x.drop(key);
            x.undo();
            Check.due("one that was dropped comes back", x.step(key, 11), 100 * '=' + 12);
        }
    }

    private static void resultsAndTracesComeBack() {
        Check.part("THE IMAGE: RESULTS, TRACES");
        for (int key = 8; key < 24; key++) {
            BuildEngine x = new BuildEngine();
            x.give(1, 7);
            x.image();
            Check.ruled(x, key, "+01");
            x.build(key);
            x.undo();
            Check.due("no RESULT comes back", x.result(key), 10000000);
            Check.due("no TRACE comes back", x.trace(key, -1), BuildEngine.STATE);
            Check.ruled(x, key, "+01+01+02");
            x.build(key);
            x.image();
            x.give(2, 8);
            x.build(key);
            Check.due("result", x.result(key), 22);
            x.undo();
            Check.due("the FAILURE comes back", x.root(key), 2);
            Check.due("its STEP comes back", x.failure(key, 0, 2), 2);
            Check.due("the TRACE comes back", x.trace(key, -1), 2);
            Check.due("its KEYS come back", x.trace(key, 1), 2);
            Check.due("what was seen comes back", x.seen(key, 1), 10000006);
            Check.due("fresh()", x.fresh(), Check.set(key));
            x.forget(key);
            x.undo();
            Check.due("what was forgotten comes back", x.seen(key, 0), 7);
            Check.due("it is SPARED", x.build(key), 0);
        }
    }

    private static void aTraceOfTwelveKeysComesBack() {
        Check.part("THE IMAGE: a TRACE of 12 KEYS");
        BuildEngine x = new BuildEngine();
        for (int key = 0; key < 8; key++) {
            x.give(key, 10 + key);
        }
        for (int key = 20; key < 24; key++) {
            Check.ruled(x, key, "=" + (10 + key));
        }
        Check.ruled(x, 8, "+07+06+05+04+20+21+22+23+03+02+01+00");
        x.build(8);
        x.image();
        for (int key = 0; key < 8; key++) {
            x.give(key, 50 + key);
        }
        for (int key = 20; key < 24; key++) {
            Check.ruled(x, key, "+00+01");
        }
        Check.ruled(x, 8, "+00+01+02+03+23+22+21+20+04+05+06+07");
        x.build(8);
        x.undo();
        int[] keys = {7, 6, 5, 4, 20, 21, 22, 23, 3, 2, 1, 0};
        Check.due("trace(8, -1)", x.trace(8, -1), 12);
        for (int i = 0; i < 12; i++) {
            Check.due("trace(8, " + i + ")", x.trace(8, i), keys[i]);
            Check.due("seen(8, " + i + ")", x.seen(8, i), 10 + keys[i]);
            Check.due("users(" + keys[i] + ")", x.users(keys[i]), Check.set(8));
        }
        Check.due("fresh()", x.fresh(), Check.set(8, 20, 21, 22, 23));
        Check.due("it is SPARED", x.build(8), 0);
    }

    private static void whatStays() {
        Check.part("THE TAPE, LISTS, what told() counts of all BUILDS stay by undo()");
        BuildEngine x = new BuildEngine();
        x.give(0, 1);
        Check.ruled(x, 8, "+09");
        Check.ruled(x, 9, "+00%02");
        Check.text(x, "=1");
        x.list(0, 2);
        x.put(0, 1, 5);
        x.build(8);
        x.image();
        x.give(0, 3);
        x.build(8);
        Check.text(x, "7");
        x.put(0, 1, 6);
        x.list(1, 20);
        x.put(1, 19, 7);
        x.undo();
        Check.due("STARTS", x.told(0), 4);
        Check.due("PUTOFFS", x.told(1), 1);
        Check.due("SPARED", x.told(2), 1);
        Check.due("CUTS", x.told(3), 1);
        Check.due("THE TAPE", x.told(8), 3);
        Check.due("LIST 0", x.get(0, 1), 6);
        Check.due("LIST 1", x.get(1, 19), 7);
        Check.due("LIST 2", x.put(2, 0, 1), Check.NOTHING);
        x.clear();
        x.list(0, 0);
        x.undo();
        Check.due("no TAPE", x.told(8), 0);
        Check.due("no LIST 0", x.put(0, 0, 1), Check.BEYOND);
        Check.text(x, "=17");
        x.undo();
        Check.due("THE TAPE's bytes", x.rule(10), 1);
        Check.due("step(10, 0)", x.step(10, 0), 100 * '=' + 17);
        x.build(8);
        Check.due("they count on: SPARED", x.told(2), 3);
    }

    private static void noTargetIsDone() {
        Check.part("35 undo: ORDER is empty, no TARGET is DONE");
        BuildEngine x = new BuildEngine();
        x.all(0);
        x.image();
        Check.due("image() leaves ORDER", x.told(9), 16);
        x.undo();
        Check.due("told(9)", x.told(9), 0);
        Check.due("order(0)", x.order(0), Check.NOT_SO);
        Check.due("order(15)", x.order(15), Check.NOT_SO);
        Check.due("the RESULTS are there", x.told(5), 16);
        x.all(1);
        Check.due("told(10) of a BUILD that was STOPPED", x.told(10), 8);
        x.image();
        Check.due("image() leaves that", x.told(10), 8);
        x.undo();
        Check.due("told(10) behind undo()", x.told(10), Check.NOT_SO);
        Check.due("told(9) behind undo()", x.told(9), 0);
        Check.due("a BUILD behind it", x.all(1), 1);
        Check.due("told(10)", x.told(10), 8);
    }

    private static void takenAnew() {
        Check.part("34 image: the latest that was taken");
        BuildEngine x = new BuildEngine();
        for (int v = 1; v <= 20; v++) {
            x.give(0, v);
            Check.due("image()", x.image(), 0);
        }
        x.give(0, 99);
        Check.due("undo()", x.undo(), 0);
        Check.due("result(0)", x.result(0), 20);
        Check.ruled(x, 8, "+00");
        x.build(8);
        x.image();
        x.undo();
        Check.due("one taken behind undo()", x.result(8), 20);
    }

    private static void broughtBackAgain() {
        Check.part("35 undo: again and again");
        BuildEngine x = new BuildEngine();
        x.give(0, 7);
        Check.ruled(x, 8, "+00");
        x.build(8);
        x.image();
        for (int v = 10; v < 30; v++) {
            x.give(0, v);
            x.build(8);
            Check.due("result(8)", x.result(8), v);
            Check.due("undo()", x.undo(), 1);
            Check.due("result(8)", x.result(8), 7);
            Check.due("undo() twice", x.undo(), 1);
            Check.due("seen(8, 0)", x.seen(8, 0), 7);
        }
    }
}
