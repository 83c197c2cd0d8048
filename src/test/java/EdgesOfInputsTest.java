import java.util.List;

/** Promises 1 to 3: a new object, and the bounds of what INPUTS are given and what is taken of them. */
public final class EdgesOfInputsTest {
    private static final int GREATEST = 1000000, LEAST = -1000000;

    public static void main(String[] args) {
        constants();
        newObject();
        objectsAreApart();
        the512thCall();
        given();
        givenTheSame();
        givenTooMuch();
        givenToNoInput();
        taken();
        takenOfNone();
        takenOfNoInput();
        Check.end();
    }

    private static void constants() {
        Check.part("the constants");
        Check.due("NONE", BuildEngine.NONE, -1);
        Check.due("BAD", BuildEngine.BAD, -2);
        Check.due("STATE", BuildEngine.STATE, -3);
        Check.due("FULL", BuildEngine.FULL, -4);
        Check.due("NO", BuildEngine.NO, Long.MIN_VALUE);
    }

    private static void newObject() {
        Check.part("1 no CONTENTS, no RULES");
        for (int key = 0; key < 8; key++) {
            Check.due("take(" + key + ")", new BuildEngine().take(key), BuildEngine.STATE);
            Check.due("result(" + key + ")", new BuildEngine().result(key), 10000006);
        }
        for (int key = 8; key < 24; key++) {
            BuildEngine x = new BuildEngine();
            Check.due("drop(" + key + ")", x.drop(key), BuildEngine.STATE);
            Check.due("step(" + key + ", -1)", x.step(key, -1), BuildEngine.STATE);
            Check.due("copy(" + key + ", 8)", x.copy(key, 8), BuildEngine.STATE);
            Check.due("result(" + key + ")", x.result(key), 10000000);
            Check.due("trace(" + key + ", -1)", x.trace(key, -1), BuildEngine.STATE);
            Check.due("forget(" + key + ")", x.forget(key), 0);
        }
        Check.due("told(8)", new BuildEngine().told(8), 0);
        Check.due("order(0)", new BuildEngine().order(0), Check.NOT_SO);
    }

    private static void objectsAreApart() {
        Check.part("1 a new object, beside another");
        BuildEngine x = Look.scene();
        List<String> was = Look.at(new BuildEngine());
        x.all(0);
        Check.isTrue("is as new", Look.at(new BuildEngine()).equals(was));
        BuildEngine y = new BuildEngine();
        y.give(0, 9);
        y.clear();
        y.all(0);
        y.image();
        BuildEngine z = Look.scene();
        z.all(0);
        Check.isTrue("what one does doesn't show in another", Look.at(x).equals(Look.at(z)));
        Check.due("told(8)", x.told(8), 3);
    }

    private static void the512thCall() {
        Check.part("an object is used for at most 512 calls");
        BuildEngine x = new BuildEngine();
        int calls = 0;
        for (int v = 1; v <= 63; v++) {
            x.give(0, v);
            x.feed('+');
            x.feed('0');
            x.feed('0');
            Check.due("rule(8)", x.rule(8), 1);
            Check.due("all(0)", x.all(0), 16);
            Check.due("image()", x.image(), 16);
            Check.due("undo()", x.undo(), 16);
            calls += 8;
        }
        for (int i = calls; i < 512; i++) {
            Check.due("call " + (i + 1), x.result(8), 63);
        }
    }

    private static void given() {
        Check.part("2 give: an INPUT has the CONTENT v: 1, if it is another than it was (or there was none)");
        for (int key = 0; key < 8; key++) {
            BuildEngine x = new BuildEngine();
            for (int v : new int[] {LEAST, LEAST + 1, -1, 0, 1, GREATEST - 1, GREATEST}) {
                Check.due("give(" + key + ", " + v + ")", x.give(key, v), 1);
                Check.due("result(" + key + ")", x.result(key), v);
            }
            for (int other = 0; other < 8; other++) {
                Check.due("the others have none", x.result(other), other == key ? GREATEST : 10000006);
            }
            Check.due("0 where there was none", x.give(7 - key, 0), 1);
        }
    }

    private static void givenTheSame() {
        Check.part("2 give: 0, if it is the same");
        for (int v : new int[] {LEAST, -1, 0, 1, GREATEST}) {
            BuildEngine x = new BuildEngine();
            Check.due("give(7, " + v + ")", x.give(7, v), 1);
            Check.due("again", x.give(7, v), 0);
            Check.due("again", x.give(7, v), 0);
            Check.due("result(7)", x.result(7), v);
            x.take(7);
            Check.due("there was none", x.give(7, v), 1);
        }
    }

    private static void givenTooMuch() {
        Check.part("2 give BAD: v; a CONTENT is a number (-1000000 .. 1000000)");
        for (int v : new int[] {Integer.MIN_VALUE, LEAST - 1, GREATEST + 1, Integer.MAX_VALUE}) {
            for (int key = 0; key < 8; key++) {
                BuildEngine x = new BuildEngine();
                Check.due("give(" + key + ", " + v + ")", x.give(key, v), BuildEngine.BAD);
                Check.due("it has none still", x.take(key), BuildEngine.STATE);
                x.give(key, GREATEST);
                Check.due("give(" + key + ", " + v + ")", x.give(key, v), BuildEngine.BAD);
                Check.due("it has what it had", x.take(key), GREATEST);
            }
        }
    }

    private static void givenToNoInput() {
        Check.part("2 give NONE: it is no INPUT, whatever v is");
        for (int key : new int[] {Integer.MIN_VALUE, -1, 8, 23, 24, Integer.MAX_VALUE}) {
            for (int v : new int[] {Integer.MIN_VALUE, LEAST - 1, LEAST, 0, GREATEST, GREATEST + 1, Integer.MAX_VALUE}) {
                Check.due("give(" + key + ", " + v + ")", new BuildEngine().give(key, v), BuildEngine.NONE);
            }
        }
        BuildEngine x = new BuildEngine();
        x.give(8, 5);
        Check.due("a TARGET has no CONTENT by it", x.result(8), 10000000);
    }

    private static void taken() {
        Check.part("3 take: an INPUT has no CONTENT: what it was");
        for (int v : new int[] {LEAST, BuildEngine.STATE, BuildEngine.NONE, 0, 1, GREATEST}) {
            for (int key = 0; key < 8; key++) {
                BuildEngine x = new BuildEngine();
                x.give(key, v);
                x.give(7 - key, 9);
                Check.due("take(" + key + ")", x.take(key), v);
                Check.due("result(" + key + ")", x.result(key), 10000006);
                Check.due("another keeps its own", x.take(7 - key), 9);
            }
        }
    }

    private static void takenOfNone() {
        Check.part("3 take STATE: it has none");
        for (int key = 0; key < 8; key++) {
            BuildEngine x = new BuildEngine();
            Check.due("at first", x.take(key), BuildEngine.STATE);
            x.give(key, 0);
            Check.due("it has 0", x.take(key), 0);
            Check.due("taken", x.take(key), BuildEngine.STATE);
            Check.due("taken", x.take(key), BuildEngine.STATE);
        }
    }

    private static void takenOfNoInput() {
        Check.part("3 take NONE: it is no INPUT");
        BuildEngine x = new BuildEngine();
        Check.ruled(x, 8, "=05");
        x.all(0);
        for (int key : new int[] {Integer.MIN_VALUE, -1, 8, 9, 23, 24, Integer.MAX_VALUE}) {
            Check.due("take(" + key + ")", x.take(key), BuildEngine.NONE);
        }
        Check.due("a TARGET keeps its RESULT", x.result(8), 5);
    }
}
