/** Terms, part 4, and promises 28 to 33: LISTS of none, of one, of 20, and what is beside their ends. */
public final class EdgesOfListsTest {
    private static final int MIN = Integer.MIN_VALUE, MAX = Integer.MAX_VALUE;

    public static void main(String[] args) {
        nothingAtFirst();
        lengths();
        anew();
        placesWritten();
        placesRead();
        numbers();
        moved();
        movedBesideTheEnds();
        movedWithinOne();
        laid();
        laidInPart();
        laidNowhere();
        judged();
        judgedByAShortList();
        judgedNowhere();
        judgedWhole();
        Check.end();
    }

    private static void nothingAtFirst() {
        Check.part("LISTS hold nothing (at first) or a row of 0 .. 20 longs; NOTHING");
        for (int list = 0; list < 4; list++) {
            BuildEngine x = new BuildEngine();
            Check.due("get", x.get(list, 0), BuildEngine.NO);
            Check.due("put", x.put(list, 0, 1), Check.NOTHING);
            Check.due("move", x.move(list, 0, list, 0, 0), Check.NOTHING);
            Check.due("lay", x.lay(list, 0), Check.NOTHING);
            Check.due("judge", x.judge(list, 0), Check.NOTHING);
            Check.due("list of none", x.list(list, 0), 1);
            Check.due("get", x.get(list, 0), BuildEngine.NO);
            Check.due("a row of none isn't NOTHING: put", x.put(list, 0, 1), Check.BEYOND);
            Check.due("move", x.move(list, 0, list, 0, 0), 0);
            Check.due("lay", x.lay(list, 0), Check.BEYOND);
            Check.due("judge", x.judge(list, 0), 100);
            for (int other = 0; other < 4; other++) {
                Check.due("the others hold nothing still", x.put(other, 0, 1), other == list ? Check.BEYOND : Check.NOTHING);
            }
        }
    }

    private static void lengths() {
        Check.part("28 list: a row of n longs, all 0; BAD: n above 20; BELOW");
        for (int n = 0; n <= 20; n++) {
            BuildEngine x = new BuildEngine();
            Check.due("list(0, " + n + ")", x.list(0, n), 1);
            for (int i = 0; i < n; i++) {
                Check.due("get(0, " + i + ")", x.get(0, i), 0);
            }
            Check.due("behind its end", x.get(0, n), BuildEngine.NO);
            Check.due("put at its end", x.put(0, n, 1), Check.BEYOND);
            Check.due("put ahead of its end", x.put(0, n - 1, 1), n == 0 ? Check.BEYOND : 1);
        }
        for (int n : new int[] {21, 22, 32, 256, MAX}) {
            BuildEngine x = new BuildEngine();
            Check.due("list(0, " + n + ")", x.list(0, n), BuildEngine.BAD);
            Check.due("it holds nothing still", x.put(0, 0, 1), Check.NOTHING);
        }
        for (int n : new int[] {-1, -2, -20, MIN}) {
            BuildEngine x = new BuildEngine();
            Check.due("list(0, " + n + ")", x.list(0, n), Check.BELOW);
            Check.due("it holds nothing still", x.put(0, 0, 1), Check.NOTHING);
        }
    }

    private static void anew() {
        Check.part("28 list: becomes a row of n longs, all 0, whatever it was");
        BuildEngine x = new BuildEngine();
        int[] lengths = {20, 5, 20, 0, 20, 19, 20};
        for (int n : lengths) {
            Check.due("list(3, " + n + ")", x.list(3, n), 1);
            for (int i = 0; i < n; i++) {
                Check.due("get(3, " + i + ")", x.get(3, i), 0);
                x.put(3, i, 100 + i);
            }
            Check.due("behind its end", x.get(3, n), BuildEngine.NO);
        }
        Check.due("refused", x.list(3, 21), BuildEngine.BAD);
        Check.due("refused", x.list(3, -1), Check.BELOW);
        Check.due("the row stays", x.get(3, 0), 100);
        Check.due("the row stays", x.get(3, 19), 119);
    }

    private static void placesWritten() {
        Check.part("29 put: place i becomes v; BEYOND");
        for (int n : new int[] {1, 2, 19, 20}) {
            for (int at : new int[] {0, n - 1}) {
                BuildEngine x = new BuildEngine();
                x.list(0, n);
                x.list(1, n);
                Check.due("put(0, " + at + ", 7)", x.put(0, at, 7), 1);
                for (int i : new int[] {n, n + 1, 20, 21, MAX, -1, -2, -20, MIN}) {
                    Check.due("put(0, " + i + ", 9)", x.put(0, i, 9), Check.BEYOND);
                }
                for (int i = 0; i < n; i++) {
                    Check.due("get(0, " + i + ")", x.get(0, i), i == at ? 7 : 0);
                    Check.due("another LIST", x.get(1, i), 0);
                }
            }
        }
    }

    private static void placesRead() {
        Check.part("30 get NO: no such LIST, nothing there, no such place");
        BuildEngine x = new BuildEngine();
        x.list(0, 1);
        x.list(1, 20);
        for (int list : new int[] {MIN, -1, 2, 3, 4, MAX}) {
            Check.due("get(" + list + ", 0)", x.get(list, 0), BuildEngine.NO);
        }
        for (int i : new int[] {MIN, -1, 1, 2, 19, 20, MAX}) {
            Check.due("get(0, " + i + ")", x.get(0, i), BuildEngine.NO);
            Check.due("get(1, " + i + ")", x.get(1, i), i >= 0 && i < 20 ? 0 : BuildEngine.NO);
        }
    }

    private static void numbers() {
        Check.part("29 put, 30 get: longs");
        BuildEngine x = new BuildEngine();
        x.list(0, 2);
        long[] all = {Long.MIN_VALUE, Long.MIN_VALUE + 1, -1L << 32, Integer.MIN_VALUE - 1L, -1, 0, 1, MAX + 1L, 1L << 32,
            Long.MAX_VALUE};
        for (long v : all) {
            Check.due("put(0, 1, " + v + ")", x.put(0, 1, v), 1);
            Check.due("get(0, 1)", x.get(0, 1), v);
            Check.due("get(0, 0)", x.get(0, 0), 0);
        }
    }

    /** LIST 0 of 1, 2, .., 20; LIST 1 of as many zeros as told. */
    private static BuildEngine rows(int zeros) {
        BuildEngine x = new BuildEngine();
        x.list(0, 20);
        x.list(1, zeros);
        for (int i = 0; i < 20; i++) {
            x.put(0, i, i + 1);
        }
        return x;
    }

    private static void moved() {
        Check.part("31 move: n longs of a LIST from i on come to another one from j on: n");
        int[][] moves = {{0, 0, 20}, {0, 0, 0}, {20, 20, 0}, {0, 20, 0}, {20, 0, 0}, {0, 19, 1}, {19, 0, 1}, {19, 19, 1},
            {1, 0, 19}, {0, 1, 19}, {7, 7, 5}};
        for (int[] m : moves) {
            BuildEngine x = rows(20);
            Check.due("move(0, " + m[0] + ", 1, " + m[1] + ", " + m[2] + ")", x.move(0, m[0], 1, m[1], m[2]), m[2]);
            for (int i = 0; i < 20; i++) {
                boolean came = i >= m[1] && i < m[1] + m[2];
                Check.due("get(1, " + i + ")", x.get(1, i), came ? m[0] + i - m[1] + 1 : 0);
                Check.due("get(0, " + i + ")", x.get(0, i), i + 1);
            }
        }
        BuildEngine x = rows(0);
        Check.due("none to a row of none", x.move(0, 20, 1, 0, 0), 0);
        Check.due("none of a row of none", x.move(1, 0, 0, 20, 0), 0);
        Check.due("one to a row of none", x.move(0, 0, 1, 0, 1), Check.BEYOND);
        Check.due("one of a row of none", x.move(1, 0, 0, 0, 1), Check.BEYOND);
    }

    private static void movedBesideTheEnds() {
        Check.part("31 move BEYOND: n, i or j is below 0, or beyond either's end");
        int[][] moves = {{-1, 0, 1}, {0, -1, 1}, {0, 0, -1}, {-1, 0, 0}, {0, -1, 0}, {-1, -1, -1}, {0, 0, 11}, {10, 0, 11},
            {11, 0, 10}, {0, 1, 10}, {20, 0, 1}, {0, 10, 1}, {21, 0, 0}, {0, 11, 0}, {MAX, 0, 1}, {0, MAX, 1}, {0, 0, MAX},
            {1, 1, MAX}, {MAX, MAX, MAX}, {MAX, 0, MAX}, {MIN, 0, 1}, {0, MIN, 1}, {0, 0, MIN}, {MIN, MIN, MIN},
            {MAX, 0, 0}, {0, MAX, 0}, {MIN, 0, MAX}, {MAX, 0, MIN}, {-5, 0, 10}, {5, 0, -5}};
        for (int[] m : moves) {
            BuildEngine x = rows(10);
            String call = "move(0, " + m[0] + ", 1, " + m[1] + ", " + m[2] + ")";
            Check.due(call, x.move(0, m[0], 1, m[1], m[2]), Check.BEYOND);
            for (int i = 0; i < 20; i++) {
                Check.due(call + " does nothing", x.get(0, i), i + 1);
                Check.due(call + " does nothing", x.get(1, i), i < 10 ? 0 : BuildEngine.NO);
            }
        }
        BuildEngine x = rows(10);
        Check.due("up to the other's end", x.move(0, 10, 1, 0, 10), 10);
        Check.due("the last", x.get(1, 9), 20);
    }

    private static void movedWithinOne() {
        Check.part("31 move: (or the same), as they all were before");
        for (int from = 0; from <= 20; from += 1) {
            for (int to = 0; to <= 20; to += 4) {
                int n = 20 - Math.max(from, to);
                BuildEngine x = rows(20);
                Check.due("move(0, " + from + ", 0, " + to + ", " + n + ")", x.move(0, from, 0, to, n), n);
                for (int i = 0; i < 20; i++) {
                    boolean came = i >= to && i < to + n;
                    Check.due("get(0, " + i + ")", x.get(0, i), came ? from + i - to + 1 : i + 1);
                }
                Check.due("one more", x.move(0, from, 0, to, n + 1), Check.BEYOND);
            }
        }
    }

    /** The TARGETS have the RESULTS 8, 9, .., but 9 has NOUGHT, 22 is EMPTY, 23 has none. */
    private static BuildEngine built() {
        BuildEngine x = new BuildEngine();
        for (int key = 8; key < 22; key++) {
            Check.ruled(x, key, key == 9 ? "%00" : "=" + Check.two(key));
        }
        x.some(32767, 0);
        return x;
    }

    private static long result(int key) {
        return key == 9 ? 10000002 : key == 22 ? 10000006 : key == 23 ? 10000000 : key;
    }

    private static void laid() {
        Check.part("32 lay: the RESULTS of TARGETS 8, 9, .. from i on: how many were");
        for (int n = 16; n <= 20; n++) {
            for (int at = 0; at <= n - 16; at++) {
                BuildEngine x = built();
                x.list(0, n);
                for (int i = 0; i < n; i++) {
                    x.put(0, i, -7);
                }
                Check.due("lay(0, " + at + ") into " + n, x.lay(0, at), 16);
                for (int i = 0; i < n; i++) {
                    boolean there = i >= at && i < at + 16;
                    Check.due("get(0, " + i + ")", x.get(0, i), there ? result(8 + i - at) : -7);
                }
                Check.due("nothing is BUILT", x.result(23), Check.NO_RESULT);
            }
        }
    }

    private static void laidInPart() {
        Check.part("32 lay BEYOND: not all 16 were (those that had a place are there all the same)");
        for (int n = 0; n <= 20; n++) {
            for (int at = Math.max(0, n - 15); at <= n; at += 3) {
                BuildEngine x = built();
                x.list(0, n);
                Check.due("lay(0, " + at + ") into " + n, x.lay(0, at), Check.BEYOND);
                for (int i = 0; i < n; i++) {
                    Check.due("get(0, " + i + ")", x.get(0, i), i < at ? 0 : result(8 + i - at));
                }
                Check.due("it is no longer", x.get(0, n), BuildEngine.NO);
            }
        }
    }

    private static void laidNowhere() {
        Check.part("32 lay BEYOND: none, if i is below 0");
        for (int at : new int[] {-1, -2, -15, -16, -17, MIN, MIN + 1, 20, 21, MAX, MAX - 1, MAX - 14}) {
            BuildEngine x = built();
            x.list(0, 20);
            Check.due("lay(0, " + at + ")", x.lay(0, at), Check.BEYOND);
            for (int i = 0; i < 20; i++) {
                Check.due("get(0, " + i + ")", x.get(0, i), 0);
            }
        }
    }

    private static void judged() {
        Check.part("33 judge: the first TARGET whose RESULT is not what the LIST has there; -5: none");
        for (int at = 0; at <= 4; at++) {
            BuildEngine x = built();
            x.list(0, 16 + at);
            x.lay(0, at);
            Check.due("judge(0, " + at + ")", x.judge(0, at), Check.NOT_SO);
            for (int i = 15; i >= 0; i--) {
                x.put(0, at + i, result(8 + i) - 1);
                Check.due("another at " + i, x.judge(0, at), i);
            }
            for (int i = 0; i < 16; i++) {
                x.put(0, at + i, result(8 + i));
                Check.due("the same up to " + i, x.judge(0, at), i == 15 ? Check.NOT_SO : i + 1);
            }
            x.forget(23);
            Check.due("what had none has none", x.judge(0, at), Check.NOT_SO);
            x.forget(8);
            Check.due("none is not 8", x.judge(0, at), 0);
        }
    }

    private static void judgedByAShortList() {
        Check.part("33 judge: 100 and how many were looked at, if the LIST ends ahead of that");
        for (int n = 0; n <= 20; n++) {
            for (int at = 0; at <= n; at++) {
                BuildEngine x = built();
                x.list(0, n);
                x.lay(0, at);
                int looked = n - at;
                Check.due("judge(0, " + at + ") of " + n, x.judge(0, at), looked >= 16 ? Check.NOT_SO : 100 + looked);
                if (looked > 0 && looked < 16) {
                    x.put(0, n - 1, -1);
                    Check.due("the last of those is another", x.judge(0, at), looked - 1);
                }
            }
        }
    }

    private static void judgedNowhere() {
        Check.part("33 judge: 100, (or the place is below 0)");
        for (int at : new int[] {-1, -2, -15, -16, -17, MIN, MIN + 1, 20, 21, MAX, MAX - 1, MAX - 14}) {
            BuildEngine x = built();
            x.list(0, 20);
            Check.due("judge(0, " + at + ")", x.judge(0, at), 100);
        }
    }

    private static void judgedWhole() {
        Check.part("33 judge: longs, not their last 32 bits");
        BuildEngine x = built();
        x.list(0, 16);
        x.lay(0, 0);
        x.put(0, 15, 10000000 + (1L << 32));
        Check.due("of the last", x.judge(0, 0), 15);
        x.put(0, 0, 8 - (1L << 32));
        Check.due("of the first", x.judge(0, 0), 0);
        x.put(0, 0, BuildEngine.NO);
        Check.due("NO in the LIST", x.judge(0, 0), 0);
    }
}
