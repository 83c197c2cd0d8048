/** Promises 34 and 35: THE IMAGE. */
public final class ImageTest {
    public static void main(String[] args) {
        imageAndUndo();
        twice();
        ofNothing();
        otherKeys();
        Check.end();
    }

    private static void imageAndUndo() {
        Check.part("34 image, 35 undo");
        BuildEngine x = new BuildEngine();
        Check.due("undo()", x.undo(), BuildEngine.STATE);
        x.give(0, 3);
        Check.ruled(x, 8, "+00");
        Check.ruled(x, 9, "+08+01");
        x.some(Check.set(9, 10), 1);
        Check.due("told(10)", x.told(10), 9);
        Check.due("image()", x.image(), 2);
        Check.due("THE IMAGE changes nothing", x.told(9), 2);

        x.give(0, 4);
        x.give(1, 4);
        x.drop(9);
        Check.ruled(x, 11, "+00");
        x.all(1);
        Check.due("told(10)", x.told(10), 9);
        x.forget(9);
        x.list(0, 1);
        x.put(0, 0, 7);
        x.feed('=');
        int starts = x.told(0);
        int putOffs = x.told(1);
        int spared = x.told(2);
        int cuts = x.told(3);
        Check.due("undo()", x.undo(), 2);
        Check.due("result(0)", x.result(0), 3);
        Check.due("result(1)", x.result(1), Check.NO_RESULT + Check.EMPTY);
        Check.due("step(9, 0)", x.step(9, 0), 100 * '+' + 8);
        Check.due("step(11, -1)", x.step(11, -1), BuildEngine.STATE);
        Check.due("result(8)", x.result(8), 3);
        Check.due("result(9)", x.result(9), Check.NO_RESULT + Check.NEEDS);
        Check.due("root(9)", x.root(9), 1);
        Check.due("result(11)", x.result(11), Check.NO_RESULT);
        Check.due("trace(9, -1)", x.trace(9, -1), 2);
        Check.due("seen(9, 0)", x.seen(9, 0), 3);
        Check.due("ORDER is empty", x.order(0), Check.NOT_SO);
        Check.due("no TARGET is DONE", x.told(9), 0);
        Check.due("told(10)", x.told(10), Check.NOT_SO);
        Check.due("LISTS stay", x.get(0, 0), 7);
        Check.due("THE TAPE stays", x.told(8), 1);
        Check.due("STARTS stay", x.told(0), starts);
        Check.due("PUTOFFS stay", x.told(1), putOffs);
        Check.due("SPARED stays", x.told(2), spared);
        Check.due("CUTS stay", x.told(3), cuts);
        Check.due("told(5)", x.told(5), 2);
        Check.due("build(9)", x.build(9), 0);
    }

    /** THE IMAGE stays as it was taken, whatever comes behind undo(). */
    private static void twice() {
        Check.part("35 undo again");
        BuildEngine x = new BuildEngine();
        x.give(0, 3);
        Check.ruled(x, 8, "+00");
        x.build(8);
        x.image();
        for (int v = 10; v < 13; v++) {
            x.give(0, v);
            Check.ruled(x, 8, "+00+00");
            Check.due("build(8)", x.build(8), 1);
            Check.due("result(8)", x.result(8), 2 * v);
            Check.due("tried(8, 0, 1)", x.tried(8, 0, 1), 1);
            Check.due("undo()", x.undo(), 1);
            Check.due("result(8)", x.result(8), 3);
            Check.due("seen(8, 0)", x.seen(8, 0), 3);
            Check.due("step(8, -1)", x.step(8, -1), 1);
        }
        x.give(0, 5);
        Check.due("image() anew", x.image(), 1);
        x.give(0, 6);
        x.undo();
        Check.due("result(0)", x.result(0), 5);
    }

    /** A TRACE comes back with its KEYS, not only with how many there were. */
    private static void otherKeys() {
        Check.part("35 undo of a TRACE");
        BuildEngine x = new BuildEngine();
        x.give(0, 3);
        x.give(1, 4);
        Check.ruled(x, 8, "+00");
        x.build(8);
        x.image();
        Check.ruled(x, 8, "+01");
        x.build(8);
        Check.due("tried(8, 0, 5)", x.tried(8, 0, 5), 0);
        Check.due("tried(8, 1, 5)", x.tried(8, 1, 5), 1);
        x.undo();
        Check.due("trace(8, 0)", x.trace(8, 0), 0);
        Check.due("seen(8, 0)", x.seen(8, 0), 3);
        Check.due("users(1)", x.users(1), 0);
        Check.due("build(8)", x.build(8), 0);
        x.give(0, 4);
        Check.due("build(8) with another CONTENT", x.build(8), 1);
    }

    private static void ofNothing() {
        Check.part("34 image of nothing");
        BuildEngine x = new BuildEngine();
        Check.due("image()", x.image(), 0);
        x.give(0, 3);
        x.all(0);
        Check.due("undo()", x.undo(), 0);
        Check.due("result(0)", x.result(0), Check.NO_RESULT + Check.EMPTY);
        Check.due("result(8)", x.result(8), Check.NO_RESULT);
    }
}
