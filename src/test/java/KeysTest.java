import java.util.function.IntUnaryOperator;

/**
 * Terms, part 1, "KEYS 0 .. 7 are INPUTS, 8 .. 23 TARGETS", and part 4, "LISTS 0 .. 3", at each call that is told one:
 * the first, the last, those between and those beside them.
 */
public final class KeysTest {
    private interface Call {
        long on(BuildEngine x, int number);
    }

    private static final int[] NUMBERS = {Integer.MIN_VALUE, Integer.MIN_VALUE + 1, -256, -24, -8, -3, -2, -1, 0, 1, 2, 3,
        4, 5, 6, 7, 8, 9, 10, 11, 12, 13, 14, 15, 16, 17, 18, 19, 20, 21, 22, 23, 24, 25, 31, 32, 39, 40, 255, 256, 264,
        Integer.MAX_VALUE - 1, Integer.MAX_VALUE};

    public static void main(String[] args) {
        inputs();
        targets();
        targetsThatAreLookedAt();
        inputsAndTargets();
        lists();
        bitsOfSome();
        Check.end();
    }

    /** Each INPUT has the CONTENT 1, each TARGET has seen INPUT 0, each LIST is a row of 16 zeros. */
    private static BuildEngine made() {
        BuildEngine x = new BuildEngine();
        for (int key = 0; key < 8; key++) {
            x.give(key, 1);
        }
        for (int key = 8; key < 24; key++) {
            Check.rule(x, key, "+00");
        }
        x.all(0);
        for (int list = 0; list < 4; list++) {
            x.list(list, 16);
        }
        return x;
    }

    /** NONE outside of first .. last, what is due inside. */
    private static void holds(String call, int first, int last, Call told, IntUnaryOperator due) {
        Check.part(call);
        for (int number : NUMBERS) {
            boolean there = number >= first && number <= last;
            Check.due("told " + number, told.on(made(), number), there ? due.applyAsInt(number) : BuildEngine.NONE);
        }
    }

    private static void holds(String call, int first, int last, Call told, int due) {
        holds(call, first, last, told, number -> due);
    }

    private static void inputs() {
        holds("2 give NONE: it is no INPUT", 0, 7, (x, key) -> x.give(key, 5), 1);
        holds("3 take NONE: it is no INPUT", 0, 7, (x, key) -> x.take(key), 1);
        holds("13 tried NONE: no such INPUT", 0, 7, (x, key) -> x.tried(8, key, 5), key -> key == 0 ? 1 : 0);
    }

    private static void targets() {
        holds("6 rule NONE: it is no TARGET", 8, 23, (x, key) -> Check.rule(x, key, "=00=01"), 2);
        holds("7 drop NONE: it is no TARGET", 8, 23, (x, key) -> x.drop(key), 1);
        holds("8 copy NONE: the first is no TARGET", 8, 23, (x, key) -> x.copy(key, 8), 1);
        holds("8 copy NONE: the other is no TARGET", 8, 23, (x, key) -> x.copy(8, key), 1);
        holds("9 step NONE: it is no TARGET", 8, 23, (x, key) -> x.step(key, -1), 1);
        holds("10 build NONE: it is no TARGET", 8, 23, KeysTest::buildAnew, 1);
        holds("13 tried NONE: no such TARGET", 8, 23, (x, key) -> x.tried(key, 0, 5), 1);
        holds("26 forget NONE: it is no TARGET", 8, 23, (x, key) -> x.forget(key), 1);
    }

    private static long buildAnew(BuildEngine x, int key) {
        x.give(0, 5);
        return x.build(key);
    }

    private static void targetsThatAreLookedAt() {
        holds("15 failure NONE: it is no TARGET", 8, 23, (x, key) -> x.failure(key, 0, 0), BuildEngine.STATE);
        holds("16 causes NONE", 8, 23, (x, key) -> x.causes(key), Check.NOT_SO);
        holds("17 root NONE", 8, 23, (x, key) -> x.root(key), Check.NOT_SO);
        holds("19 trace NONE: it is no TARGET", 8, 23, (x, key) -> x.trace(key, 0), 0);
        holds("20 seen NONE: it is no TARGET", 8, 23, (x, key) -> x.seen(key, 0), 1);
    }

    private static void inputsAndTargets() {
        holds("14 result NONE", 0, 23, (x, key) -> x.result(key), 1);
        holds("18 blamed NONE", 0, 23, (x, key) -> x.blamed(key), 0);
        holds("21 users NONE", 0, 23, (x, key) -> x.users(key), key -> key == 0 ? 65535 : 0);
        holds("22 depth NONE", 0, 23, (x, key) -> x.depth(key), key -> key < 8 ? 0 : 1);
    }

    private static void lists() {
        holds("28 list NONE: list", 0, 3, (x, list) -> x.list(list, 2), 1);
        holds("29 put NONE", 0, 3, (x, list) -> x.put(list, 0, 5), 1);
        holds("31 move NONE: lists, the first", 0, 3, (x, list) -> x.move(list, 0, 0, 0, 5), 5);
        holds("31 move NONE: lists, the other", 0, 3, (x, list) -> x.move(0, 0, list, 0, 5), 5);
        holds("32 lay NONE", 0, 3, (x, list) -> x.lay(list, 0), 16);
        holds("33 judge NONE", 0, 3, (x, list) -> x.judge(list, 0), 0);
        Check.part("30 get NO: no such LIST");
        for (int list : NUMBERS) {
            Check.due("get(" + list + ", 0)", made().get(list, 0), list >= 0 && list <= 3 ? 0 : BuildEngine.NO);
        }
    }

    /** Bit 0 is 8, bit 15 is 23, in sets that are told and in those that are answered. */
    private static void bitsOfSome() {
        Check.part("12, 18, 21, 25 bits 0 .. 15 for 8 .. 23");
        for (int key = 8; key < 24; key++) {
            BuildEngine x = new BuildEngine();
            Check.due("some(1 << " + (key - 8) + ", 0)", x.some(1 << (key - 8), 0), 1);
            Check.due("order(0)", x.order(0), key);
            Check.due("blamed(" + key + ")", x.blamed(key), 1 << (key - 8));
            Check.ruled(x, key, "+00");
            x.give(0, 1);
            x.build(key);
            Check.due("users(0)", x.users(0), 1 << (key - 8));
            Check.due("fresh()", x.fresh(), 1 << (key - 8));
        }
    }
}
