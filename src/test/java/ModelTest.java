/**
 * Runs of 512 calls, each answer held against the Model's. The seeds are told, so every run is the same each time.
 * Kinds of runs: 0 of all calls alike, 1 of small RULES and many BUILDS, 2 of RULES that need TARGETS above them (few
 * rings), 3 of RULES that need any TARGET (many rings), 4 of texts with FAULTS, 5 of RULES that need many KEYS.
 */
public final class ModelTest {
    private static final int RUNS = 6000, CALLS = 512, LOOKS = 200;
    private static final int[] EDGES = {Integer.MIN_VALUE, Integer.MIN_VALUE + 1, -1000001, -1000000, -100, -15, -2, -1,
        0, 1, 2, 3, 4, 7, 8, 9, 15, 16, 19, 20, 21, 22, 23, 24, 25, 49, 50, 99, 127, 128, 65535, 65536, 1000000, 1000001,
        10000000, Integer.MAX_VALUE - 20, Integer.MAX_VALUE - 1, Integer.MAX_VALUE};

    /** Each goes through all of 12 places. */
    private static final int[] STRIDES = {1, 5, 7, 11};

    private static final Draws random = new Draws();
    private static BuildEngine engine;
    private static Model model;
    private static int kind;

    public static void main(String[] args) {
        for (int run = 0; run < RUNS; run++) {
            random.setSeed(run);
            engine = new BuildEngine();
            model = new Model();
            kind = run % 6;
            Check.part("run " + run);
            int calls = kind == 5 ? giveAll() : 0;
            while (calls < CALLS - LOOKS) {
                calls += call(CALLS - LOOKS - calls);
            }
            for (int i = 0; i < LOOKS; i++) {
                look(target(), random.nextInt(24));
            }
        }
        Check.end();
    }

    /** How many calls it was. */
    private static int giveAll() {
        for (int key = 0; key < 8; key++) {
            due("give(" + key + ", " + key + ")", engine.give(key, key), model.give(key, key));
        }
        return 8;
    }

    /** How many calls it was. */
    private static int call(int left) {
        if (kind == 0 || random.nextInt(12) == 0) {
            other(random.nextInt(31), EDGES[random.nextInt(EDGES.length)]);
            return 1;
        }
        int which = random.nextInt(20);
        if (which < 5) {
            String text = kind == 4 ? faulty(ruleText()) : ruleText();
            if (text.length() + 1 > left) {
                return left;
            }
            for (int i = 0; i < text.length(); i++) {
                feed(text.charAt(i));
            }
            int key = kind == 5 ? text.length() > 3 ? 8 + random.nextInt(4) : 20 + random.nextInt(4) : target();
            due("rule(" + key + ") of " + text, engine.rule(key), model.rule(key));
            return text.length() + 1;
        }
        if (which < 9) {
            change();
        } else if (which < 14) {
            build();
        } else {
            other(random.nextInt(31), kind == 1 ? target() : random.nextInt(25) - 1);
        }
        return 1;
    }

    private static int target() {
        return 8 + random.nextInt(kind == 1 ? 5 : 16);
    }

    /** Of 12 KEYS, mostly the INPUTS and TARGETS 20 .. 23, each once. */
    private static String longRuleText() {
        StringBuilder text = new StringBuilder();
        int first = random.nextInt(12);
        int stride = STRIDES[random.nextInt(4)];
        for (int i = 0; i < 12; i++) {
            int place = (first + i * stride) % 12;
            int key = random.nextInt(60) == 0 ? target() : place < 8 ? place : place + 12;
            text.append(random.nextInt(2) == 0 ? '+' : '-').append((char) ('0' + key / 10)).append((char) ('0' + key % 10));
        }
        return text.toString();
    }

    private static String ruleText() {
        if (kind == 5) {
            return random.nextInt(3) == 0 ? longRuleText() : "+0" + random.nextInt(8);
        }
        StringBuilder text = new StringBuilder();
        int length = 1 + random.nextInt(random.nextInt(3) == 0 ? 12 : 3);
        for (int i = 0; i < length; i++) {
            char sign = "+-*/&=%!?^+++-&&?".charAt(random.nextInt(17));
            int n = random.nextInt(100);
            if ("+-*/&".indexOf(sign) >= 0) {
                n = random.nextInt(3) > 0 ? target() : random.nextInt(kind == 1 ? 3 : 8);
            } else if (sign == '?' || sign == '^') {
                n = random.nextInt(4);
            }
            text.append(sign).append((char) ('0' + n / 10)).append((char) ('0' + n % 10));
        }
        return text.toString();
    }

    private static String faulty(String text) {
        String changed = text;
        int changes = 1 + random.nextInt(2);
        for (int i = 0; i < changes && !changed.isEmpty(); i++) {
            changed = changedOnce(changed);
        }
        return changed;
    }

    private static String changedOnce(String text) {
        StringBuilder changed = new StringBuilder(text);
        int at = random.nextInt(text.length());
        switch (random.nextInt(6)) {
            case 0:
                changed.setLength(at);
                break;
            case 1:
                changed.setCharAt(at, (char) (1 + random.nextInt(127)));
                break;
            case 2:
                changed.setCharAt(at, "0123456789+-*/&=%!?^".charAt(random.nextInt(20)));
                break;
            case 3:
                changed.append("+05=1x&99".charAt(random.nextInt(9)));
                break;
            case 4:
                changed.append("+-*/&=%!?^".charAt(random.nextInt(10))).append((char) ('0' + random.nextInt(10)));
                break;
            default:
                break;
        }
        return changed.toString();
    }

    private static void change() {
        int which = random.nextInt(8);
        if (which < 4) {
            int key = random.nextInt(kind == 1 ? 3 : 8);
            int v = random.nextInt(4) == 0 ? random.nextInt(2000001) - 1000000 : random.nextInt(5) - 2;
            due("give(" + key + ", " + v + ")", engine.give(key, v), model.give(key, v));
        } else {
            other(which == 4 ? 0 : which == 5 ? 1 : which == 6 ? 14 : 23, target());
        }
    }

    private static void build() {
        int key = target();
        int which = random.nextInt(4);
        if (which == 0) {
            int set = random.nextInt(65536);
            int stops = random.nextInt(2);
            due("some(" + set + ", " + stops + ")", engine.some(set, stops), model.some(set, stops));
        } else if (which == 1) {
            int input = random.nextInt(8);
            int v = random.nextInt(5) - 2;
            due("tried(" + key + ", " + input + ", " + v + ")", engine.tried(key, input, v), model.tried(key, input, v));
        } else {
            due("build(" + key + ")", engine.build(key), model.build(key));
        }
    }

    private static void feed(int letter) {
        due("feed(" + letter + ")", engine.feed(letter), model.feed(letter));
    }

    private static int number() {
        return random.nextInt(4) == 0 ? EDGES[random.nextInt(EDGES.length)] : random.nextInt(26) - 2;
    }

    private static void due(String call, long got, long want) {
        Check.due(call, got, want);
    }

    /** Numbers that look drawn, but follow from the seed alone. */
    private static final class Draws {
        private long state;

        void setSeed(long seed) {
            state = seed * 0x9E3779B97F4A7C15L + 1;
            nextInt(1);
        }

        int nextInt(int bound) {
            state = state * 6364136223846793005L + 1442695040888963407L;
            return (int) ((state >>> 33) % bound);
        }
    }

    private static void other(int which, int a) {
        int b = number();
        int c = number();
        switch (which) {
            case 0: due("take(" + a + ")", engine.take(a), model.take(a)); break;
            case 1: due("drop(" + a + ")", engine.drop(a), model.drop(a)); break;
            case 2: due("copy(" + a + ", " + b + ")", engine.copy(a, b), model.copy(a, b)); break;
            case 3: due("step(" + a + ", " + b + ")", engine.step(a, b), model.step(a, b)); break;
            case 4: due("build(" + a + ")", engine.build(a), model.build(a)); break;
            case 5: due("all(" + a + ")", engine.all(a & 3), model.all(a & 3)); break;
            case 6: due("some(" + a + ", " + b + ")", engine.some(a, b), model.some(a, b)); break;
            case 7: due("tried(" + a + ", " + b + ", " + c + ")", engine.tried(a, b, c), model.tried(a, b, c)); break;
            case 8: due("result(" + a + ")", engine.result(a), model.result(a)); break;
            case 9: due("failure(" + a + ", " + b + ", " + c + ")", engine.failure(a, b, c), model.failure(a, b, c)); break;
            case 10: due("causes(" + a + ")", engine.causes(a), model.causes(a)); break;
            case 11: due("root(" + a + ")", engine.root(a), model.root(a)); break;
            case 12: due("blamed(" + a + ")", engine.blamed(a), model.blamed(a)); break;
            case 13: due("trace(" + a + ", " + b + ")", engine.trace(a, b), model.trace(a, b)); break;
            case 14: due("forget(" + a + ")", engine.forget(a), model.forget(a)); break;
            case 15: due("seen(" + a + ", " + b + ")", engine.seen(a, b), model.seen(a, b)); break;
            case 16: due("users(" + a + ")", engine.users(a), model.users(a)); break;
            case 17: due("depth(" + a + ")", engine.depth(a), model.depth(a)); break;
            case 18: due("order(" + b + ")", engine.order(b), model.order(b)); break;
            case 19: due("unlike()", engine.unlike(), model.unlike()); break;
            case 20: due("fresh()", engine.fresh(), model.fresh()); break;
            case 21: due("told(" + b + ")", engine.told(b), model.told(b)); break;
            case 22: due("image()", engine.image(), model.image()); break;
            case 23: due("undo()", engine.undo(), model.undo()); break;
            case 24: feed(a); break;
            case 25: due("rule(" + a + ")", engine.rule(a), model.rule(a)); break;
            case 26: due("give(" + a + ", " + b + ")", engine.give(a, b), model.give(a, b)); break;
            case 27: due("clear()", engine.clear(), model.clear()); break;
            default: lists(random.nextInt(10) == 0 ? a : random.nextInt(4), b, c); break;
        }
    }

    private static void lists(int list, int b, int c) {
        int other = random.nextInt(5);
        int n = random.nextInt(3) == 0 ? number() : random.nextInt(5);
        switch (random.nextInt(6)) {
            case 0: due("list(" + list + ", " + b + ")", engine.list(list, b), model.list(list, b)); break;
            case 1: due("put(" + list + ", " + b + ", " + c + ")", engine.put(list, b, c), model.put(list, b, c)); break;
            case 2: due("get(" + list + ", " + b + ")", engine.get(list, b), model.get(list, b)); break;
            case 3:
                due("move(" + list + ", " + b + ", " + other + ", " + c + ", " + n + ")",
                    engine.move(list, b, other, c, n), model.move(list, b, other, c, n));
                break;
            case 4: due("lay(" + list + ", " + n + ")", engine.lay(list, n), model.lay(list, n)); break;
            default: due("judge(" + list + ", " + n + ")", engine.judge(list, n), model.judge(list, n)); break;
        }
    }

    /** One of the calls that only look, told what is mostly there. */
    private static void look(int target, int key) {
        int i = random.nextInt(kind == 5 ? 14 : 6) - 1;
        int what = random.nextInt(3);
        switch (random.nextInt(15)) {
            case 0: due("result(" + key + ")", engine.result(key), model.result(key)); break;
            case 1: due("blamed(" + key + ")", engine.blamed(key), model.blamed(key)); break;
            case 2: due("users(" + key + ")", engine.users(key), model.users(key)); break;
            case 3: due("depth(" + key + ")", engine.depth(key), model.depth(key)); break;
            case 4: due("causes(" + target + ")", engine.causes(target), model.causes(target)); break;
            case 5: due("root(" + target + ")", engine.root(target), model.root(target)); break;
            case 6: due("unlike()", engine.unlike(), model.unlike()); break;
            case 7: due("fresh()", engine.fresh(), model.fresh()); break;
            case 8: due("step(" + target + ", " + i + ")", engine.step(target, i), model.step(target, i)); break;
            case 9: due("trace(" + target + ", " + i + ")", engine.trace(target, i), model.trace(target, i)); break;
            case 10: due("seen(" + target + ", " + i + ")", engine.seen(target, i), model.seen(target, i)); break;
            case 11: due("told(" + key / 2 + ")", engine.told(key / 2), model.told(key / 2)); break;
            case 12: due("order(" + key + ")", engine.order(key), model.order(key)); break;
            case 13: due("result(" + target + ")", engine.result(target), model.result(target)); break;
            default:
                due("failure(" + target + ", " + i + ", " + what + ")", engine.failure(target, i, what),
                    model.failure(target, i, what));
                break;
        }
    }
}
