import java.util.ArrayList;
import java.util.Arrays;
import java.util.HashSet;
import java.util.LinkedHashMap;
import java.util.List;
import java.util.Map;
import java.util.Set;
import java.util.TreeMap;
import java.util.regex.Pattern;

/** A second program of the document, written with maps, records and exceptions, to be held against the first. */
final class Model {
    /** A CONTENT (sort 0, key -1) or a FAILURE; equals of records is SAME. */
    record Res(int content, int key, int sort, int step, Res cause) {
        static Res number(int v) {
            return new Res(v, -1, 0, -1, null);
        }

        int told() {
            return sort == 0 ? content : 10000000 + sort;
        }

        /** Itself and its CAUSES. */
        List<Res> chain() {
            List<Res> all = new ArrayList<>();
            for (Res r = this; r != null; r = r.cause) {
                all.add(r);
            }
            return all;
        }
    }

    /** Thrown by a RUN that asks for a TARGET that isn't DONE. */
    private static final class PutOff extends RuntimeException {
        private static final long serialVersionUID = 1;
        final int key;

        PutOff(int key) {
            super(null, null, false, false);
            this.key = key;
        }
    }

    /** Thrown by a RUN that fails. */
    private static final class Fails extends RuntimeException {
        private static final long serialVersionUID = 1;
        final Res failure;

        Fails(Res failure) {
            super(null, null, false, false);
            this.failure = failure;
        }
    }

    private static final String STEP = "([-+*/&]([01][0-9]|2[0-3])|[=%!?^][0-9][0-9])";
    private static final Pattern WHOLE = Pattern.compile(STEP + "{1,12}");
    private static final Pattern BEGUN =
        Pattern.compile(STEP + "{0,12}|" + STEP + "{0,11}([-+*/&][0-2]?|[=%!?^][0-9]?)");
    /** The last two bytes tell a number, but no KEY. */
    private static final Pattern NO_KEY = Pattern.compile(STEP + "*[-+*/&][0-9][0-9]");

    private Map<Integer, Integer> contents = new TreeMap<>();
    private Map<Integer, String> rules = new TreeMap<>();
    private Map<Integer, Res> results = new TreeMap<>();
    private Map<Integer, LinkedHashMap<Integer, Res>> traces = new TreeMap<>();
    private Model taken = null;
    private StringBuilder tape = new StringBuilder();
    private final long[][] lists = new long[4][];
    private int[] counts = new int[4];
    private List<Integer> order = new ArrayList<>();
    private Set<Integer> open = new HashSet<>();
    private int stoppedBy = -5;

    private void takeFrom(Model other) {
        contents = new TreeMap<>(other.contents);
        rules = new TreeMap<>(other.rules);
        results = new TreeMap<>(other.results);
        traces = new TreeMap<>();
        for (Map.Entry<Integer, LinkedHashMap<Integer, Res>> e : other.traces.entrySet()) {
            traces.put(e.getKey(), new LinkedHashMap<>(e.getValue()));
        }
    }

    private static boolean input(int key) {
        return key >= 0 && key <= 7;
    }

    private static boolean target(int key) {
        return key >= 8 && key <= 23;
    }

    private static boolean key(int key) {
        return key >= 0 && key <= 23;
    }

    private static boolean content(long v) {
        return Math.abs(v) <= 1000000;
    }

    int give(int key, int v) {
        if (!input(key)) {
            return -1;
        }
        if (!content(v)) {
            return -2;
        }
        Integer was = contents.put(key, v);
        return was == null || was != v ? 1 : 0;
    }

    int take(int key) {
        if (!input(key)) {
            return -1;
        }
        Integer was = contents.remove(key);
        return was == null ? -3 : was;
    }

    int feed(int letter) {
        if (letter < 1 || letter > 127) {
            return -2;
        }
        if (tape.length() == 50) {
            return -4;
        }
        tape.append((char) letter);
        return tape.length();
    }

    int clear() {
        int had = tape.length();
        tape = new StringBuilder();
        return had;
    }

    /** -1: none. */
    static int fault(String text) {
        for (int i = 0; i < text.length(); i++) {
            String begin = text.substring(0, i + 1);
            if (!BEGUN.matcher(begin).matches()) {
                return i < 36 && NO_KEY.matcher(begin).matches() ? i - 1 : i;
            }
        }
        return WHOLE.matcher(text).matches() ? -1 : text.length();
    }

    private int steps(int key) {
        return rules.containsKey(key) ? rules.get(key).length() / 3 : 0;
    }

    private int newRule(int key, String text) {
        traces.remove(key);
        rules.put(key, text);
        return steps(key);
    }

    int rule(int key) {
        if (!target(key)) {
            return -1;
        }
        String text = tape.toString();
        clear();
        int fault = fault(text);
        return fault >= 0 ? -100 - fault : newRule(key, text);
    }

    int drop(int key) {
        if (!target(key)) {
            return -1;
        }
        if (!rules.containsKey(key)) {
            return -3;
        }
        int had = steps(key);
        rules.remove(key);
        traces.remove(key);
        return had;
    }

    int copy(int key, int other) {
        if (!target(key) || !target(other)) {
            return -1;
        }
        return rules.containsKey(key) ? newRule(other, rules.get(key)) : -3;
    }

    int step(int key, int i) {
        if (!target(key) || i < -1) {
            return -1;
        }
        if (!rules.containsKey(key)) {
            return -3;
        }
        if (i >= steps(key)) {
            return -1;
        }
        return i == -1 ? steps(key) : 100 * sign(key, i) + figures(key, i);
    }

    private char sign(int key, int i) {
        return rules.get(key).charAt(3 * i);
    }

    private int figures(int key, int i) {
        return Integer.parseInt(rules.get(key).substring(3 * i + 1, 3 * i + 3));
    }

    int build(int key) {
        if (!target(key)) {
            return -1;
        }
        int before = counts[0];
        some(1 << (key - 8), 0);
        return counts[0] - before;
    }

    int all(int stops) {
        return some(65535, stops);
    }

    int some(int set, int stops) {
        if (set < 0 || set > 65535) {
            return -2;
        }
        if (stops != 0 && stops != 1) {
            return -1;
        }
        order = new ArrayList<>();
        stoppedBy = -5;
        for (int key = 8; key < 24; key++) {
            if ((set & 1 << (key - 8)) != 0) {
                make(key);
                if (stops == 1 && results.get(key).sort != 0) {
                    stoppedBy = key;
                    break;
                }
            }
        }
        return order.size();
    }

    private Res now(int key) {
        if (target(key)) {
            return results.get(key);
        }
        return contents.containsKey(key) ? Res.number(contents.get(key)) : new Res(0, key, 6, -1, null);
    }

    private void make(int key) {
        if (order.contains(key)) {
            return;
        }
        open.add(key);
        if (!rules.containsKey(key)) {
            results.put(key, new Res(0, key, 6, -1, null));
        } else if (traces.containsKey(key) && allSame(traces.get(key))) {
            counts[2]++;
        } else {
            run(key);
        }
        open.remove(key);
        order.add(key);
    }

    private boolean allSame(Map<Integer, Res> trace) {
        for (int asked : trace.keySet()) {
            if (open.contains(asked)) {
                return false;
            }
            if (target(asked)) {
                make(asked);
            }
            if (!now(asked).equals(trace.get(asked))) {
                return false;
            }
        }
        return true;
    }

    private void run(int key) {
        LinkedHashMap<Integer, Res> saw = new LinkedHashMap<>();
        Res made = null;
        while (made == null) {
            saw.clear();
            counts[0]++;
            try {
                made = Res.number(comesTo(key, saw));
            } catch (Fails f) {
                made = f.failure;
            } catch (PutOff p) {
                counts[1]++;
                make(p.key);
            }
        }
        if (made.equals(results.put(key, made))) {
            counts[3]++;
        }
        traces.remove(key);
        if (made.chain().stream().noneMatch(r -> r.sort == 1)) {
            traces.put(key, saw);
        }
    }

    private int comesTo(int key, Map<Integer, Res> saw) {
        long v = 0;
        for (int i = 0; i < steps(key); i++) {
            char sign = sign(key, i);
            int n = figures(key, i);
            long it = "+-*/&".indexOf(sign) >= 0 ? ask(key, i, n, saw) : n;
            if (sign == '+') {
                v += it;
            } else if (sign == '-') {
                v -= it;
            } else if (sign == '*') {
                v *= it;
            } else if (sign == '&' || sign == '=') {
                v = it;
            } else if (sign == '/' || sign == '%') {
                if (it == 0) {
                    throw new Fails(new Res(0, key, 2, i, null));
                }
                long cut = Math.abs(v) / Math.abs(it) * Long.signum(v) * Long.signum(it);
                v = sign == '/' ? cut : v - cut * it;
            } else if (sign == '!' && v > it) {
                throw new Fails(new Res(0, key, 4, i, null));
            } else if (sign == '?' && v == 0 || sign == '^' && v < 0) {
                i += n;
            }
            if (!content(v)) {
                throw new Fails(new Res(0, key, 3, i, null));
            }
        }
        return (int) v;
    }

    private int ask(int key, int i, int asked, Map<Integer, Res> saw) {
        if (open.contains(asked)) {
            throw new Fails(new Res(0, key, 1, i, null));
        }
        if (target(asked) && !order.contains(asked)) {
            throw new PutOff(asked);
        }
        Res got = now(asked);
        saw.put(asked, got);
        if (got.sort != 0) {
            throw new Fails(new Res(0, key, 5, i, got));
        }
        return got.content;
    }

    int tried(int key, int input, int v) {
        if (!target(key) || !input(input)) {
            return -1;
        }
        if (!content(v)) {
            return -2;
        }
        Model other = new Model();
        other.takeFrom(this);
        other.contents.put(input, v);
        return other.build(key);
    }

    int result(int key) {
        if (!key(key)) {
            return -1;
        }
        return now(key) == null ? 10000000 : now(key).told();
    }

    private List<Res> failures(int key) {
        Res r = results.get(key);
        return r == null || r.sort == 0 ? List.of() : r.chain();
    }

    int failure(int key, int i, int what) {
        if (!target(key) || what < 0 || what > 2) {
            return -1;
        }
        List<Res> chain = failures(key);
        if (i < 0 || i >= chain.size()) {
            return -3;
        }
        Res r = chain.get(i);
        return what == 0 ? r.key : what == 1 ? r.sort : r.step;
    }

    int causes(int key) {
        if (!target(key)) {
            return -1;
        }
        return failures(key).isEmpty() ? -5 : failures(key).size() - 1;
    }

    int root(int key) {
        if (!target(key)) {
            return -1;
        }
        List<Res> chain = failures(key);
        return chain.isEmpty() ? -5 : chain.get(chain.size() - 1).key;
    }

    int blamed(int key) {
        if (!key(key)) {
            return -1;
        }
        int set = 0;
        for (int t = 8; t < 24; t++) {
            if (failures(t).stream().anyMatch(r -> r.key == key)) {
                set |= 1 << (t - 8);
            }
        }
        return set;
    }

    int trace(int key, int i) {
        if (!target(key) || i < -1) {
            return -1;
        }
        if (!traces.containsKey(key)) {
            return -3;
        }
        List<Integer> keys = new ArrayList<>(traces.get(key).keySet());
        if (i == -1) {
            return keys.size();
        }
        return i < keys.size() ? keys.get(i) : -1;
    }

    int seen(int key, int i) {
        if (!target(key) || i < 0) {
            return -1;
        }
        if (!traces.containsKey(key)) {
            return -3;
        }
        List<Res> saw = new ArrayList<>(traces.get(key).values());
        return i < saw.size() ? saw.get(i).told() : -1;
    }

    int users(int key) {
        if (!key(key)) {
            return -1;
        }
        int set = 0;
        for (int t : traces.keySet()) {
            if (traces.get(t).containsKey(key)) {
                set |= 1 << (t - 8);
            }
        }
        return set;
    }

    int depth(int key) {
        return key(key) ? depth(key, new TreeMap<>()) : -1;
    }

    private int depth(int key, Map<Integer, Integer> known) {
        if (!traces.containsKey(key)) {
            return 0;
        }
        if (!known.containsKey(key)) {
            int greatest = 0;
            for (int asked : traces.get(key).keySet()) {
                greatest = Math.max(greatest, depth(asked, known));
            }
            known.put(key, traces.get(key).isEmpty() ? 0 : 1 + greatest);
        }
        return known.get(key);
    }

    int order(int i) {
        if (i < 0) {
            return -1;
        }
        return i < order.size() ? order.get(i) : -5;
    }

    int unlike() {
        return new HashSet<>(results.values()).size();
    }

    int fresh() {
        int set = 0;
        for (int t : traces.keySet()) {
            if (traces.get(t).entrySet().stream().allMatch(e -> e.getValue().equals(now(e.getKey())))) {
                set |= 1 << (t - 8);
            }
        }
        return set;
    }

    int forget(int key) {
        if (!target(key)) {
            return -1;
        }
        boolean had = results.remove(key) != null | traces.remove(key) != null;
        return had ? 1 : 0;
    }

    int told(int what) {
        if (what < 0 || what > 10) {
            return -1;
        }
        int failures = (int) results.values().stream().filter(r -> r.sort != 0).count();
        int[] all = {counts[0], counts[1], counts[2], counts[3], rules.size(), results.size(), failures,
            traces.size(), tape.length(), order.size(), stoppedBy};
        return all[what];
    }

    private int listState(int list) {
        if (list < 0 || list > 3) {
            return -1;
        }
        return lists[list] == null ? -11 : 0;
    }

    int list(int list, int n) {
        if (listState(list) == -1) {
            return -1;
        }
        if (n > 20) {
            return -2;
        }
        if (n < 0) {
            return -14;
        }
        lists[list] = new long[n];
        return 1;
    }

    int put(int list, int i, long v) {
        if (listState(list) != 0) {
            return listState(list);
        }
        if (i < 0 || i >= lists[list].length) {
            return -13;
        }
        lists[list][i] = v;
        return 1;
    }

    long get(int list, int i) {
        return listState(list) != 0 || i < 0 || i >= lists[list].length ? Long.MIN_VALUE : lists[list][i];
    }

    int move(int list, int i, int other, int j, int n) {
        if (listState(list) == -1 || listState(other) == -1) {
            return -1;
        }
        if (listState(list) == -11 || listState(other) == -11) {
            return -11;
        }
        if (n < 0 || i < 0 || j < 0 || (long) i + n > lists[list].length || (long) j + n > lists[other].length) {
            return -13;
        }
        long[] were = Arrays.copyOfRange(lists[list], i, i + n);
        for (int k = 0; k < n; k++) {
            lists[other][j + k] = were[k];
        }
        return n;
    }

    int lay(int list, int i) {
        if (listState(list) != 0) {
            return listState(list);
        }
        for (long t = 0; t < 16; t++) {
            if (i < 0 || i + t >= lists[list].length) {
                return -13;
            }
            lists[list][(int) (i + t)] = result((int) t + 8);
        }
        return 16;
    }

    int judge(int list, int i) {
        if (listState(list) != 0) {
            return listState(list);
        }
        for (long t = 0; t < 16; t++) {
            if (i < 0 || i + t >= lists[list].length) {
                return (int) (100 + t);
            }
            if (lists[list][(int) (i + t)] != result((int) t + 8)) {
                return (int) t;
            }
        }
        return -5;
    }

    int image() {
        taken = new Model();
        taken.takeFrom(this);
        return results.size();
    }

    int undo() {
        if (taken == null) {
            return -3;
        }
        takeFrom(taken);
        order = new ArrayList<>();
        stoppedBy = -5;
        return results.size();
    }
}
