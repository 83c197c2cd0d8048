/** Promises 28 to 33: LISTS. */
public final class ListsTest {
    public static void main(String[] args) {
        list();
        putAndGet();
        move();
        layAndJudge();
        Check.end();
    }

    private static void list() {
        Check.part("28 list");
        BuildEngine x = new BuildEngine();
        Check.due("list(4, -1)", x.list(4, -1), BuildEngine.NONE);
        Check.due("list(-1, 0)", x.list(-1, 0), BuildEngine.NONE);
        Check.due("list(0, 21)", x.list(0, 21), BuildEngine.BAD);
        Check.due("list(0, MAX)", x.list(0, Integer.MAX_VALUE), BuildEngine.BAD);
        Check.due("list(0, -1)", x.list(0, -1), Check.BELOW);
        Check.due("list(0, MIN)", x.list(0, Integer.MIN_VALUE), Check.BELOW);
        Check.due("still NOTHING", x.put(0, 0, 1), Check.NOTHING);
        Check.due("list(0, 20)", x.list(0, 20), 1);
        Check.due("get(0, 19)", x.get(0, 19), 0);
        x.put(0, 19, 5);
        Check.due("list(0, 21) does nothing", x.list(0, 21), BuildEngine.BAD);
        Check.due("get(0, 19)", x.get(0, 19), 5);
        Check.due("list(0, 20) anew", x.list(0, 20), 1);
        Check.due("all 0", x.get(0, 19), 0);
        Check.due("list(3, 0)", x.list(3, 0), 1);
        Check.due("get(3, 0)", x.get(3, 0), BuildEngine.NO);
        Check.due("put(3, 0, 1)", x.put(3, 0, 1), Check.BEYOND);
    }

    private static void putAndGet() {
        Check.part("29 put, 30 get");
        BuildEngine x = new BuildEngine();
        Check.due("put(0, -1, 1)", x.put(0, -1, 1), Check.NOTHING);
        x.list(0, 3);
        Check.due("put(0, 0, MIN)", x.put(0, 0, Long.MIN_VALUE), 1);
        Check.due("put(0, 2, MAX)", x.put(0, 2, Long.MAX_VALUE), 1);
        Check.due("put(0, 3, 1)", x.put(0, 3, 1), Check.BEYOND);
        Check.due("put(0, -1, 1)", x.put(0, -1, 1), Check.BEYOND);
        Check.due("put(4, 0, 1)", x.put(4, 0, 1), BuildEngine.NONE);
        Check.due("put(-1, 0, 1)", x.put(-1, 0, 1), BuildEngine.NONE);
        Check.due("get(0, 0)", x.get(0, 0), Long.MIN_VALUE);
        Check.due("get(0, 1)", x.get(0, 1), 0);
        Check.due("get(0, 2)", x.get(0, 2), Long.MAX_VALUE);
        Check.due("get(0, 3)", x.get(0, 3), BuildEngine.NO);
        Check.due("get(0, -1)", x.get(0, -1), BuildEngine.NO);
        Check.due("get(1, 0)", x.get(1, 0), BuildEngine.NO);
        Check.due("get(4, 0)", x.get(4, 0), BuildEngine.NO);
        Check.due("get(-1, 0)", x.get(-1, 0), BuildEngine.NO);
    }

    private static void move() {
        Check.part("31 move");
        BuildEngine x = new BuildEngine();
        x.list(0, 5);
        x.list(1, 3);
        for (int i = 0; i < 5; i++) {
            x.put(0, i, i + 1);
        }
        Check.due("move(4, 0, 2, 0, -1)", x.move(4, 0, 2, 0, -1), BuildEngine.NONE);
        Check.due("move(0, 0, -1, 0, 1)", x.move(0, 0, -1, 0, 1), BuildEngine.NONE);
        Check.due("move(2, 0, 0, 0, -1)", x.move(2, 0, 0, 0, -1), Check.NOTHING);
        Check.due("move(0, 0, 2, 0, 1)", x.move(0, 0, 2, 0, 1), Check.NOTHING);
        Check.due("n below 0", x.move(0, 0, 1, 0, -1), Check.BEYOND);
        Check.due("i below 0", x.move(0, -1, 1, 0, 1), Check.BEYOND);
        Check.due("j below 0", x.move(0, 0, 1, -1, 1), Check.BEYOND);
        Check.due("beyond the first", x.move(0, 4, 1, 0, 2), Check.BEYOND);
        Check.due("beyond the other", x.move(0, 0, 1, 2, 2), Check.BEYOND);
        Check.due("none, beyond the first", x.move(0, 6, 1, 0, 0), Check.BEYOND);
        Check.due("none, beyond the other", x.move(0, 0, 1, 4, 0), Check.BEYOND);
        Check.due("none, at the ends", x.move(0, 5, 1, 3, 0), 0);
        Check.due("n MAX", x.move(0, 1, 1, 1, Integer.MAX_VALUE), Check.BEYOND);
        Check.due("i MAX", x.move(0, Integer.MAX_VALUE, 1, 0, 1), Check.BEYOND);
        Check.due("i, n MAX", x.move(0, Integer.MAX_VALUE, 1, Integer.MAX_VALUE, Integer.MAX_VALUE), Check.BEYOND);
        Check.due("n MIN", x.move(0, 0, 1, 0, Integer.MIN_VALUE), Check.BEYOND);
        holds(x, 1, 0, 0, 0);
        Check.due("to another", x.move(0, 2, 1, 0, 3), 3);
        holds(x, 1, 3, 4, 5);
        Check.due("within one, upwards", x.move(0, 0, 0, 1, 4), 4);
        holds(x, 0, 1, 1, 2, 3, 4);
        Check.due("within one, downwards", x.move(0, 2, 0, 0, 3), 3);
        holds(x, 0, 2, 3, 4, 3, 4);
    }

    private static void holds(BuildEngine x, int list, long... row) {
        for (int i = 0; i < row.length; i++) {
            Check.due("get(" + list + ", " + i + ")", x.get(list, i), row[i]);
        }
        Check.due("get(" + list + ", " + row.length + ")", x.get(list, row.length), BuildEngine.NO);
    }

    private static void layAndJudge() {
        BuildEngine x = new BuildEngine();
        Check.ruled(x, 8, "=05");
        Check.ruled(x, 9, "%00");
        Check.ruled(x, 23, "=09");
        x.some(Check.set(8, 9, 10, 23), 0);
        Check.part("32 lay");
        Check.due("lay(4, 0)", x.lay(4, 0), BuildEngine.NONE);
        Check.due("lay(-1, 0)", x.lay(-1, 0), BuildEngine.NONE);
        Check.due("lay(0, 0)", x.lay(0, 0), Check.NOTHING);
        x.list(0, 20);
        Check.due("lay(0, 4)", x.lay(0, 4), 16);
        Check.due("get(0, 3)", x.get(0, 3), 0);
        Check.due("get(0, 4)", x.get(0, 4), 5);
        Check.due("get(0, 5)", x.get(0, 5), Check.NO_RESULT + Check.NOUGHT);
        Check.due("get(0, 6)", x.get(0, 6), Check.NO_RESULT + Check.EMPTY);
        Check.due("get(0, 7)", x.get(0, 7), Check.NO_RESULT);
        Check.due("get(0, 19)", x.get(0, 19), 9);
        x.list(1, 4);
        Check.due("lay(1, 2)", x.lay(1, 2), Check.BEYOND);
        holds(x, 1, 0, 0, 5, Check.NO_RESULT + Check.NOUGHT);
        x.list(1, 4);
        Check.due("lay(1, -1)", x.lay(1, -1), Check.BEYOND);
        Check.due("lay(1, 4)", x.lay(1, 4), Check.BEYOND);
        Check.due("lay(1, MAX)", x.lay(1, Integer.MAX_VALUE), Check.BEYOND);
        Check.due("lay(1, MIN)", x.lay(1, Integer.MIN_VALUE), Check.BEYOND);
        holds(x, 1, 0, 0, 0, 0);

        Check.part("33 judge");
        Check.due("judge(4, 0)", x.judge(4, 0), BuildEngine.NONE);
        Check.due("judge(-1, 0)", x.judge(-1, 0), BuildEngine.NONE);
        Check.due("judge(2, 0)", x.judge(2, 0), Check.NOTHING);
        Check.due("judge(0, 4)", x.judge(0, 4), Check.NOT_SO);
        x.put(0, 19, 8);
        Check.due("the last is another", x.judge(0, 4), 15);
        x.put(0, 7, 0);
        Check.due("one between is another", x.judge(0, 4), 3);
        Check.due("judge(0, 0)", x.judge(0, 0), 0);
        x.lay(0, 5);
        Check.due("the LIST ends ahead", x.judge(0, 5), 115);
        Check.due("judge(0, -1)", x.judge(0, -1), 100);
        Check.due("judge(0, 20)", x.judge(0, 20), 100);
        Check.due("judge(0, MAX)", x.judge(0, Integer.MAX_VALUE), 100);
        Check.due("judge(0, MIN)", x.judge(0, Integer.MIN_VALUE), 100);
        x.list(3, 0);
        Check.due("of a row of none", x.judge(3, 0), 100);
    }
}
