import java.util.ArrayList;
import java.util.List;

/**
 * What an object answers to the calls that only look, in some 300 calls, and a scene to look at that holds one of each
 * thing, made in some 110 calls: one look at one scene stays within the 512 calls that an object is used for.
 */
final class Look {
    private final BuildEngine x;
    private final List<String> answers = new ArrayList<>();

    private Look(BuildEngine x) {
        this.x = x;
    }

    static List<String> at(BuildEngine x) {
        Look look = new Look(x);
        look.keys();
        look.targets();
        look.buildsAndLists();
        return look.answers;
    }

    private int note(String call, long answer) {
        answers.add(call + " answers " + answer);
        return (int) answer;
    }

    private void keys() {
        for (int key = 0; key < 24; key++) {
            note("result(" + key + ")", x.result(key));
            note("users(" + key + ")", x.users(key));
            note("blamed(" + key + ")", x.blamed(key));
        }
    }

    private void targets() {
        for (int key = 8; key < 24; key++) {
            int steps = note("step(" + key + ", -1)", x.step(key, -1));
            for (int i = 0; i < steps; i++) {
                note("step(" + key + ", " + i + ")", x.step(key, i));
            }
            int keys = note("trace(" + key + ", -1)", x.trace(key, -1));
            for (int i = 0; i < keys; i++) {
                note("trace(" + key + ", " + i + ")", x.trace(key, i));
                note("seen(" + key + ", " + i + ")", x.seen(key, i));
            }
            int causes = note("causes(" + key + ")", x.causes(key));
            for (int i = 0; i <= causes; i++) {
                for (int what = 0; what < 3; what++) {
                    note("failure(" + key + ", " + i + ", " + what + ")", x.failure(key, i, what));
                }
            }
        }
        note("depth(8)", x.depth(8));
        note("depth(15)", x.depth(15));
    }

    private void buildsAndLists() {
        for (int what = 0; what < 11; what++) {
            note("told(" + what + ")", x.told(what));
        }
        int done = x.told(9);
        for (int i = 0; i <= done; i++) {
            note("order(" + i + ")", x.order(i));
        }
        note("unlike()", x.unlike());
        note("fresh()", x.fresh());
        for (int list = 0; list < 4; list++) {
            long held = 0;
            for (int i = 0; i < 6 && held != BuildEngine.NO; i++) {
                held = x.get(list, i);
                note("get(" + list + ", " + i + ")", held);
            }
        }
    }

    /** Contents and none, TARGETS of each kind, LISTS and none, a text on THE TAPE; THE IMAGE is another than what is. */
    static BuildEngine scene() {
        BuildEngine x = new BuildEngine();
        x.give(0, 4);
        x.give(1, -1000000);
        x.give(2, 1000000);
        Check.rule(x, 8, "+00");
        Check.rule(x, 9, "+08+07");
        Check.rule(x, 10, "=07");
        Check.rule(x, 11, "+12");
        Check.rule(x, 12, "+11");
        Check.rule(x, 13, "=01%00");
        x.some(Check.set(8, 9, 10, 11, 13, 14), 0);
        x.list(0, 3);
        x.put(0, 1, 77);
        x.list(1, 0);
        x.list(2, 5);
        x.put(2, 4, -9);
        x.image();
        x.give(0, 5);
        x.take(2);
        x.give(3, 1);
        x.drop(13);
        x.forget(10);
        Check.rule(x, 15, "+00+08");
        Check.rule(x, 16, "+15+15");
        x.some(Check.set(9, 16), 0);
        x.some(Check.set(15, 17, 18), 1);
        Check.text(x, "=42");
        return x;
    }
}
