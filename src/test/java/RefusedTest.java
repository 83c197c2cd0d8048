import java.util.List;
import java.util.function.Consumer;

/**
 * Answers: "the first that a call's words name", and "What is answered so changes nothing": each call that is refused,
 * on a scene that holds one of each thing. Behind it, and behind a later call, all must look as it does on a scene
 * that has not had the refused call.
 */
public final class RefusedTest {
    private interface Call {
        long on(BuildEngine x);
    }

    private static final int MIN = Integer.MIN_VALUE, MAX = Integer.MAX_VALUE;

    private static Consumer<BuildEngine> ahead = x -> { };

    public static void main(String[] args) {
        theSceneIsSmallEnough();
        inputs();
        tapeAndRules();
        faults();
        builds();
        results();
        traces();
        refusedLists();
        nothingHeld();
        beyond();
        imageAndUndo();
        Check.end();
    }

    /** An object is used for at most 512 calls. */
    private static void theSceneIsSmallEnough() {
        Check.part("512 calls");
        BuildEngine x = Look.scene();
        x.all(0);
        int look = Look.at(x).size();
        Check.isTrue("a look of " + look + " calls", look < 300);
    }

    /** The later calls: none, a RULE of what THE TAPE holds, THE IMAGE brought back, a BUILD of all. */
    private static void refused(String call, Call told, long due) {
        sameBehind(call, told, due, "", x -> { });
        sameBehind(call, told, due, ", rule(23)", x -> x.rule(23));
        sameBehind(call, told, due, ", undo()", x -> x.undo());
        sameBehind(call, told, due, ", all(0)", x -> x.all(0));
    }

    private static void sameBehind(String call, Call told, long due, String laterCall, Consumer<BuildEngine> later) {
        BuildEngine x = Look.scene();
        BuildEngine without = Look.scene();
        ahead.accept(x);
        ahead.accept(without);
        Check.due(call, told.on(x), due);
        later.accept(x);
        later.accept(without);
        List<String> is = Look.at(x);
        List<String> was = Look.at(without);
        for (int i = 0; i < is.size() && i < was.size(); i++) {
            Check.isTrue(call + laterCall + ": " + is.get(i) + ", due is " + was.get(i), is.get(i).equals(was.get(i)));
        }
        Check.due(call + laterCall + ": as many answers", is.size(), was.size());
    }

    private static void inputs() {
        Check.part("2 give NONE: it is no INPUT; BAD: v");
        refused("give(-1, 3)", x -> x.give(-1, 3), BuildEngine.NONE);
        refused("give(8, 3)", x -> x.give(8, 3), BuildEngine.NONE);
        refused("give(0, 1000001)", x -> x.give(0, 1000001), BuildEngine.BAD);
        refused("give(2, -1000001)", x -> x.give(2, -1000001), BuildEngine.BAD);
        refused("give(7, MAX)", x -> x.give(7, MAX), BuildEngine.BAD);
        refused("give(7, MIN)", x -> x.give(7, MIN), BuildEngine.BAD);
        refused("give(8, 1000001), both", x -> x.give(8, 1000001), BuildEngine.NONE);
        refused("give(-1, -1000001), both", x -> x.give(-1, -1000001), BuildEngine.NONE);
        Check.part("3 take NONE: it is no INPUT; STATE: it has none");
        refused("take(-1)", x -> x.take(-1), BuildEngine.NONE);
        refused("take(8)", x -> x.take(8), BuildEngine.NONE);
        refused("take(24)", x -> x.take(24), BuildEngine.NONE);
        refused("take(7), never given", x -> x.take(7), BuildEngine.STATE);
        refused("take(2), taken", x -> x.take(2), BuildEngine.STATE);
    }

    private static void tapeAndRules() {
        Check.part("4 feed BAD; FULL");
        for (int letter : new int[] {MIN, -1, 0, 128, 256 + '=', MAX}) {
            refused("feed(" + letter + ")", x -> x.feed(letter), BuildEngine.BAD);
        }
        ahead = x -> Check.text(x, "=".repeat(47));
        refused("feed('=') when full", x -> x.feed('='), BuildEngine.FULL);
        refused("feed(127) when full", x -> x.feed(127), BuildEngine.FULL);
        refused("feed(0) when full, both", x -> x.feed(0), BuildEngine.BAD);
        refused("feed(128) when full, both", x -> x.feed(128), BuildEngine.BAD);
        ahead = x -> { };
        Check.part("6 rule NONE: it is no TARGET (THE TAPE stays)");
        refused("rule(7)", x -> x.rule(7), BuildEngine.NONE);
        refused("rule(24)", x -> x.rule(24), BuildEngine.NONE);
        refused("rule(MIN)", x -> x.rule(MIN), BuildEngine.NONE);
        ahead = x -> x.feed('x');
        refused("rule(7) of a text with a FAULT, both", x -> x.rule(7), BuildEngine.NONE);
        refused("rule(24) of a text with a FAULT, both", x -> x.rule(24), BuildEngine.NONE);
        ahead = x -> { };
        Check.part("7 drop NONE: it is no TARGET; STATE: it has none");
        refused("drop(7)", x -> x.drop(7), BuildEngine.NONE);
        refused("drop(24)", x -> x.drop(24), BuildEngine.NONE);
        refused("drop(13), dropped", x -> x.drop(13), BuildEngine.STATE);
        refused("drop(23), never ruled", x -> x.drop(23), BuildEngine.STATE);
        Check.part("8 copy NONE: either is no TARGET; STATE: the first has none");
        refused("copy(7, 8)", x -> x.copy(7, 8), BuildEngine.NONE);
        refused("copy(8, 7)", x -> x.copy(8, 7), BuildEngine.NONE);
        refused("copy(24, 8)", x -> x.copy(24, 8), BuildEngine.NONE);
        refused("copy(8, 24)", x -> x.copy(8, 24), BuildEngine.NONE);
        refused("copy(13, 8)", x -> x.copy(13, 8), BuildEngine.STATE);
        refused("copy(23, 23)", x -> x.copy(23, 23), BuildEngine.STATE);
        refused("copy(13, 7), both", x -> x.copy(13, 7), BuildEngine.NONE);
        refused("copy(13, 24), both", x -> x.copy(13, 24), BuildEngine.NONE);
        Check.part("9 step NONE: it is no TARGET, or i is below -1; STATE: it has no RULE; NONE: there is no such STEP");
        refused("step(7, 0)", x -> x.step(7, 0), BuildEngine.NONE);
        refused("step(24, -1)", x -> x.step(24, -1), BuildEngine.NONE);
        refused("step(8, -2)", x -> x.step(8, -2), BuildEngine.NONE);
        refused("step(13, -1)", x -> x.step(13, -1), BuildEngine.STATE);
        refused("step(8, 1)", x -> x.step(8, 1), BuildEngine.NONE);
        refused("step(13, -2), no RULE and below -1", x -> x.step(13, -2), BuildEngine.NONE);
        refused("step(13, MIN), no RULE and below -1", x -> x.step(13, MIN), BuildEngine.NONE);
        refused("step(13, 1), no RULE and no STEP", x -> x.step(13, 1), BuildEngine.STATE);
        refused("step(13, MAX), no RULE and no STEP", x -> x.step(13, MAX), BuildEngine.STATE);
    }

    /** "A text with a FAULT does nothing", but THE TAPE is empty behind it: as behind clear(). */
    private static void faults() {
        Check.part("6 rule -100 less the FAULT");
        String[] texts = {"", "+", "+24", "=0x", "=00=", "x", "=00-00*99", "=00".repeat(13)};
        int[] dues = {-100, -101, -101, -102, -104, -100, -107, -136};
        for (int i = 0; i < texts.length; i++) {
            for (int key : new int[] {8, 9, 10, 12, 13, 23}) {
                BuildEngine x = Look.scene();
                BuildEngine without = Look.scene();
                x.clear();
                without.clear();
                String call = "rule(" + key + ") of '" + texts[i] + "'";
                Check.due(call, Check.rule(x, key, texts[i]), dues[i]);
                Check.isTrue(call + " does nothing", Look.at(x).equals(Look.at(without)));
            }
        }
    }

    private static void builds() {
        Check.part("10 build NONE: it is no TARGET");
        refused("build(7)", x -> x.build(7), BuildEngine.NONE);
        refused("build(24)", x -> x.build(24), BuildEngine.NONE);
        Check.part("11 all NONE: stops");
        refused("all(-1)", x -> x.all(-1), BuildEngine.NONE);
        refused("all(2)", x -> x.all(2), BuildEngine.NONE);
        refused("all(MIN)", x -> x.all(MIN), BuildEngine.NONE);
        refused("all(MAX)", x -> x.all(MAX), BuildEngine.NONE);
        Check.part("12 some BAD: set (0 .. 65535); NONE: stops");
        refused("some(-1, 0)", x -> x.some(-1, 0), BuildEngine.BAD);
        refused("some(65536, 1)", x -> x.some(65536, 1), BuildEngine.BAD);
        refused("some(MIN, 0)", x -> x.some(MIN, 0), BuildEngine.BAD);
        refused("some(MAX, 0)", x -> x.some(MAX, 0), BuildEngine.BAD);
        refused("some(65535, -1)", x -> x.some(65535, -1), BuildEngine.NONE);
        refused("some(0, 2)", x -> x.some(0, 2), BuildEngine.NONE);
        refused("some(-1, -1), both", x -> x.some(-1, -1), BuildEngine.BAD);
        refused("some(65536, 2), both", x -> x.some(65536, 2), BuildEngine.BAD);
        Check.part("13 tried NONE: no such TARGET, INPUT; BAD: v");
        refused("tried(7, 0, 0)", x -> x.tried(7, 0, 0), BuildEngine.NONE);
        refused("tried(24, 0, 0)", x -> x.tried(24, 0, 0), BuildEngine.NONE);
        refused("tried(8, -1, 0)", x -> x.tried(8, -1, 0), BuildEngine.NONE);
        refused("tried(8, 8, 0)", x -> x.tried(8, 8, 0), BuildEngine.NONE);
        refused("tried(8, 0, 1000001)", x -> x.tried(8, 0, 1000001), BuildEngine.BAD);
        refused("tried(8, 0, -1000001)", x -> x.tried(8, 0, -1000001), BuildEngine.BAD);
        refused("tried(8, 0, MIN)", x -> x.tried(8, 0, MIN), BuildEngine.BAD);
        refused("tried(24, 0, 1000001), both", x -> x.tried(24, 0, 1000001), BuildEngine.NONE);
        refused("tried(8, 8, -1000001), both", x -> x.tried(8, 8, -1000001), BuildEngine.NONE);
        Check.part("13 tried: nothing of it stays");
        refused("tried(16, 0, 6)", x -> x.tried(16, 0, 6), 4);
        refused("tried(10, 0, 6), of one that was forgotten", x -> x.tried(10, 0, 6), 1);
        refused("tried(11, 7, 6), of a ring", x -> x.tried(11, 7, 6), 3);
        refused("tried(20, 7, 6), without a RULE", x -> x.tried(20, 7, 6), 0);
    }

    private static void results() {
        Check.part("14 result NONE");
        refused("result(-1)", x -> x.result(-1), BuildEngine.NONE);
        refused("result(24)", x -> x.result(24), BuildEngine.NONE);
        Check.part("15 failure NONE: it is no TARGET, what; STATE: it has no such");
        refused("failure(7, 0, 0)", x -> x.failure(7, 0, 0), BuildEngine.NONE);
        refused("failure(24, 0, 0)", x -> x.failure(24, 0, 0), BuildEngine.NONE);
        refused("failure(9, 0, -1)", x -> x.failure(9, 0, -1), BuildEngine.NONE);
        refused("failure(9, 0, 3)", x -> x.failure(9, 0, 3), BuildEngine.NONE);
        refused("failure(9, 2, 0)", x -> x.failure(9, 2, 0), BuildEngine.STATE);
        refused("failure(9, -1, 0)", x -> x.failure(9, -1, 0), BuildEngine.STATE);
        refused("failure(8, 0, 2), a CONTENT", x -> x.failure(8, 0, 2), BuildEngine.STATE);
        refused("failure(23, 0, 2), no RESULT", x -> x.failure(23, 0, 2), BuildEngine.STATE);
        refused("failure(7, 9, 0), no TARGET and no such", x -> x.failure(7, 9, 0), BuildEngine.NONE);
        refused("failure(9, 2, 3), what and no such", x -> x.failure(9, 2, 3), BuildEngine.NONE);
        refused("failure(23, 0, -1), what and no such", x -> x.failure(23, 0, -1), BuildEngine.NONE);
        Check.part("16 causes, 17 root NONE; -5");
        refused("causes(7)", x -> x.causes(7), BuildEngine.NONE);
        refused("causes(24)", x -> x.causes(24), BuildEngine.NONE);
        refused("causes(8)", x -> x.causes(8), Check.NOT_SO);
        refused("root(7)", x -> x.root(7), BuildEngine.NONE);
        refused("root(24)", x -> x.root(24), BuildEngine.NONE);
        refused("root(8)", x -> x.root(8), Check.NOT_SO);
        Check.part("18 blamed NONE");
        refused("blamed(-1)", x -> x.blamed(-1), BuildEngine.NONE);
        refused("blamed(24)", x -> x.blamed(24), BuildEngine.NONE);
    }

    private static void traces() {
        Check.part("19 trace NONE: it is no TARGET, or i is below -1; STATE: it has no TRACE; NONE: there is no such KEY");
        refused("trace(7, -1)", x -> x.trace(7, -1), BuildEngine.NONE);
        refused("trace(24, 0)", x -> x.trace(24, 0), BuildEngine.NONE);
        refused("trace(9, -2)", x -> x.trace(9, -2), BuildEngine.NONE);
        refused("trace(11, -1)", x -> x.trace(11, -1), BuildEngine.STATE);
        refused("trace(9, 2)", x -> x.trace(9, 2), BuildEngine.NONE);
        refused("trace(9, MAX)", x -> x.trace(9, MAX), BuildEngine.NONE);
        refused("trace(11, -2), no TRACE and below -1", x -> x.trace(11, -2), BuildEngine.NONE);
        refused("trace(11, 2), no TRACE and no KEY", x -> x.trace(11, 2), BuildEngine.STATE);
        Check.part("20 seen NONE: it is no TARGET, or i is below 0; STATE, NONE likewise");
        refused("seen(7, 0)", x -> x.seen(7, 0), BuildEngine.NONE);
        refused("seen(24, 0)", x -> x.seen(24, 0), BuildEngine.NONE);
        refused("seen(9, -1)", x -> x.seen(9, -1), BuildEngine.NONE);
        refused("seen(11, 0)", x -> x.seen(11, 0), BuildEngine.STATE);
        refused("seen(9, 2)", x -> x.seen(9, 2), BuildEngine.NONE);
        refused("seen(11, -1), no TRACE and below 0", x -> x.seen(11, -1), BuildEngine.NONE);
        refused("seen(11, MAX), no TRACE and no KEY", x -> x.seen(11, MAX), BuildEngine.STATE);
        Check.part("21 users, 22 depth, 23 order NONE");
        refused("users(-1)", x -> x.users(-1), BuildEngine.NONE);
        refused("users(24)", x -> x.users(24), BuildEngine.NONE);
        refused("depth(-1)", x -> x.depth(-1), BuildEngine.NONE);
        refused("depth(24)", x -> x.depth(24), BuildEngine.NONE);
        refused("order(-1)", x -> x.order(-1), BuildEngine.NONE);
        refused("order(MIN)", x -> x.order(MIN), BuildEngine.NONE);
        refused("order(3)", x -> x.order(3), Check.NOT_SO);
        Check.part("26 forget NONE: it is no TARGET; 0, if it had neither");
        refused("forget(7)", x -> x.forget(7), BuildEngine.NONE);
        refused("forget(24)", x -> x.forget(24), BuildEngine.NONE);
        refused("forget(23)", x -> x.forget(23), 0);
        Check.part("27 told NONE");
        refused("told(-1)", x -> x.told(-1), BuildEngine.NONE);
        refused("told(11)", x -> x.told(11), BuildEngine.NONE);
        refused("told(MIN)", x -> x.told(MIN), BuildEngine.NONE);
        refused("told(MAX)", x -> x.told(MAX), BuildEngine.NONE);
    }

    private static void refusedLists() {
        Check.part("28 list NONE: list; BAD: n above 20; BELOW");
        refused("list(-1, 2)", x -> x.list(-1, 2), BuildEngine.NONE);
        refused("list(4, 2)", x -> x.list(4, 2), BuildEngine.NONE);
        refused("list(0, 21)", x -> x.list(0, 21), BuildEngine.BAD);
        refused("list(0, MAX)", x -> x.list(0, MAX), BuildEngine.BAD);
        refused("list(0, -1)", x -> x.list(0, -1), Check.BELOW);
        refused("list(0, MIN)", x -> x.list(0, MIN), Check.BELOW);
        refused("list(3, 21), of NOTHING", x -> x.list(3, 21), BuildEngine.BAD);
        refused("list(3, -1), of NOTHING", x -> x.list(3, -1), Check.BELOW);
        refused("list(4, 21), both", x -> x.list(4, 21), BuildEngine.NONE);
        refused("list(-1, -1), both", x -> x.list(-1, -1), BuildEngine.NONE);
        Check.part("29 put to 33 judge NONE");
        refused("put(-1, 0, 5)", x -> x.put(-1, 0, 5), BuildEngine.NONE);
        refused("put(4, 0, 5)", x -> x.put(4, 0, 5), BuildEngine.NONE);
        refused("put(4, -1, 5), both", x -> x.put(4, -1, 5), BuildEngine.NONE);
        refused("get(4, 0)", x -> x.get(4, 0), BuildEngine.NO);
        refused("get(-1, 0)", x -> x.get(-1, 0), BuildEngine.NO);
        refused("move(4, 0, 0, 0, 1)", x -> x.move(4, 0, 0, 0, 1), BuildEngine.NONE);
        refused("move(0, 0, -1, 0, 1)", x -> x.move(0, 0, -1, 0, 1), BuildEngine.NONE);
        refused("move(3, 0, 4, 0, 1), NOTHING too", x -> x.move(3, 0, 4, 0, 1), BuildEngine.NONE);
        refused("move(-1, 0, 3, 0, 1), NOTHING too", x -> x.move(-1, 0, 3, 0, 1), BuildEngine.NONE);
        refused("move(0, -1, 4, 0, 1), BEYOND too", x -> x.move(0, -1, 4, 0, 1), BuildEngine.NONE);
        refused("lay(4, 0)", x -> x.lay(4, 0), BuildEngine.NONE);
        refused("lay(-1, -1), both", x -> x.lay(-1, -1), BuildEngine.NONE);
        refused("judge(4, 0)", x -> x.judge(4, 0), BuildEngine.NONE);
        refused("judge(-1, -1), both", x -> x.judge(-1, -1), BuildEngine.NONE);
    }

    private static void nothingHeld() {
        Check.part("29 put to 33 judge NOTHING");
        refused("put(3, 0, 5)", x -> x.put(3, 0, 5), Check.NOTHING);
        refused("put(3, -1, 5), both", x -> x.put(3, -1, 5), Check.NOTHING);
        refused("put(3, 20, 5), both", x -> x.put(3, 20, 5), Check.NOTHING);
        refused("get(3, 0)", x -> x.get(3, 0), BuildEngine.NO);
        refused("move(3, 0, 0, 0, 1)", x -> x.move(3, 0, 0, 0, 1), Check.NOTHING);
        refused("move(0, 0, 3, 0, 1)", x -> x.move(0, 0, 3, 0, 1), Check.NOTHING);
        refused("move(3, 0, 3, 0, 0)", x -> x.move(3, 0, 3, 0, 0), Check.NOTHING);
        refused("move(0, 9, 3, 0, 1), both", x -> x.move(0, 9, 3, 0, 1), Check.NOTHING);
        refused("move(3, 0, 0, -1, 1), both", x -> x.move(3, 0, 0, -1, 1), Check.NOTHING);
        refused("move(3, 0, 0, 0, -1), both", x -> x.move(3, 0, 0, 0, -1), Check.NOTHING);
        refused("lay(3, 0)", x -> x.lay(3, 0), Check.NOTHING);
        refused("lay(3, -1), both", x -> x.lay(3, -1), Check.NOTHING);
        refused("judge(3, 0)", x -> x.judge(3, 0), Check.NOTHING);
        refused("judge(3, -1)", x -> x.judge(3, -1), Check.NOTHING);
    }

    /** LIST 0 has 3 places, 1 none, 2 has 5. */
    private static void beyond() {
        Check.part("29 put to 32 lay BEYOND");
        refused("put(0, -1, 5)", x -> x.put(0, -1, 5), Check.BEYOND);
        refused("put(0, 3, 5)", x -> x.put(0, 3, 5), Check.BEYOND);
        refused("put(0, MIN, 5)", x -> x.put(0, MIN, 5), Check.BEYOND);
        refused("put(0, MAX, 5)", x -> x.put(0, MAX, 5), Check.BEYOND);
        refused("put(1, 0, 5), of a row of none", x -> x.put(1, 0, 5), Check.BEYOND);
        refused("get(0, -1)", x -> x.get(0, -1), BuildEngine.NO);
        refused("get(0, 3)", x -> x.get(0, 3), BuildEngine.NO);
        refused("get(1, 0)", x -> x.get(1, 0), BuildEngine.NO);
        refused("move(0, 0, 2, 0, -1)", x -> x.move(0, 0, 2, 0, -1), Check.BEYOND);
        refused("move(0, -1, 2, 0, 2)", x -> x.move(0, -1, 2, 0, 2), Check.BEYOND);
        refused("move(0, 0, 2, -1, 2)", x -> x.move(0, 0, 2, -1, 2), Check.BEYOND);
        refused("move(0, 0, 2, 0, 4), the first's end", x -> x.move(0, 0, 2, 0, 4), Check.BEYOND);
        refused("move(0, 1, 2, 0, 3), the first's end", x -> x.move(0, 1, 2, 0, 3), Check.BEYOND);
        refused("move(2, 0, 0, 0, 4), the other's end", x -> x.move(2, 0, 0, 0, 4), Check.BEYOND);
        refused("move(2, 0, 0, 1, 3), the other's end", x -> x.move(2, 0, 0, 1, 3), Check.BEYOND);
        refused("move(0, 4, 2, 0, 0)", x -> x.move(0, 4, 2, 0, 0), Check.BEYOND);
        refused("move(0, 0, 2, 6, 0)", x -> x.move(0, 0, 2, 6, 0), Check.BEYOND);
        refused("move(0, 1, 0, 0, MAX)", x -> x.move(0, 1, 0, 0, MAX), Check.BEYOND);
        refused("move(0, MAX, 0, MAX, 2)", x -> x.move(0, MAX, 0, MAX, 2), Check.BEYOND);
        refused("move(0, 0, 0, 0, MIN)", x -> x.move(0, 0, 0, 0, MIN), Check.BEYOND);
        refused("lay(0, -1), none are laid", x -> x.lay(0, -1), Check.BEYOND);
        refused("lay(0, MIN), none are laid", x -> x.lay(0, MIN), Check.BEYOND);
        refused("lay(0, 3), none are laid", x -> x.lay(0, 3), Check.BEYOND);
        refused("lay(0, MAX), none are laid", x -> x.lay(0, MAX), Check.BEYOND);
        refused("lay(1, 0), none are laid", x -> x.lay(1, 0), Check.BEYOND);
        Check.part("33 judge 100, if the place is below 0");
        refused("judge(0, -1)", x -> x.judge(0, -1), 100);
        refused("judge(0, MIN)", x -> x.judge(0, MIN), 100);
        refused("judge(0, 3)", x -> x.judge(0, 3), 100);
    }

    private static void imageAndUndo() {
        Check.part("34 image: what is there stays");
        BuildEngine x = Look.scene();
        Check.due("image()", x.image(), 9);
        Check.isTrue("all looks as before", Look.at(x).equals(Look.at(Look.scene())));
        Check.part("35 undo STATE: there is none");
        BuildEngine y = new BuildEngine();
        y.give(0, 1);
        Check.rule(y, 8, "+00");
        y.all(1);
        List<String> was = Look.at(y);
        Check.due("undo()", y.undo(), BuildEngine.STATE);
        Check.isTrue("all looks as before", Look.at(y).equals(was));
    }
}
