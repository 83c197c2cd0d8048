import java.util.Arrays;

/** The build engine of ../shared/DOC.md: words in capitals in the comments are that document's. */
public final class BuildEngine {
    public static final int NONE = -1, BAD = -2, STATE = -3, FULL = -4;
    public static final long NO = Long.MIN_VALUE;

    private static final int NOT_SO = -5;
    private static final int NOTHING = -11, BEYOND = -13, BELOW = -14;

    private static final int INPUTS = 8, TARGETS = 16, KEYS = INPUTS + TARGETS;
    private static final int ALL_TARGETS = (1 << TARGETS) - 1;
    private static final int GREATEST_CONTENT = 1000000;
    private static final int NO_RESULT = 10000000;
    private static final int NO_SORT = 0, RING = 1, NOUGHT = 2, OVER = 3, TOLD = 4, NEEDS = 5, EMPTY = 6;
    private static final int NO_STEP = -1;

    private static final int GREATEST_LETTER = 127;
    private static final int TAPE_LENGTH = 50;
    private static final int STEPS = 12, STEP_LENGTH = 3;
    private static final int NO_FAULT = -1;
    private static final int FAULT_BASE = -100;

    private static final int LISTS = 4, PLACES = 20;
    private static final int ENDED = 100;

    private final Builder builder;
    /** The tried BUILDS have a world of their own, so that nothing of them can stay. */
    private final Builder trier;
    /** The builder's. */
    private final World world;
    private final World imageWorld;
    private final Tape tape;
    private final Row[] rows;
    private boolean hasImage;

    public BuildEngine() {
        builder = new Builder();
        trier = new Builder();
        world = builder.world;
        imageWorld = new World();
        tape = new Tape();
        rows = new Row[LISTS];
        for (int i = 0; i < LISTS; i++) {
            rows[i] = new Row();
        }
    }

    public int give(int key, int v) {
        if (!isInput(key)) {
            return NONE;
        }
        if (!isContent(v)) {
            return BAD;
        }
        return world.giveContent(key, v) ? 1 : 0;
    }

    public int take(int key) {
        Result was = world.contentOf(key);
        if (was == null) {
            return isInput(key) ? STATE : NONE;
        }
        world.takeContent(key);
        return was.content;
    }

    public int feed(int letter) {
        if (letter < 1 || letter > GREATEST_LETTER) {
            return BAD;
        }
        return tape.append(letter) ? tape.length : FULL;
    }

    public int clear() {
        return tape.empty();
    }

    public int rule(int key) {
        Target target = world.targetOf(key);
        if (target == null) {
            return NONE;
        }
        int fault = tape.faultAsRule();
        if (fault == NO_FAULT) {
            target.readRule(tape);
        }
        tape.empty();
        return fault == NO_FAULT ? target.stepCount : FAULT_BASE - fault;
    }

    public int drop(int key) {
        Target target = world.targetOf(key);
        if (target == null) {
            return NONE;
        }
        int had = target.stepCount;
        if (had == 0) {
            return STATE;
        }
        target.dropRule();
        return had;
    }

    public int copy(int key, int other) {
        Target from = world.targetOf(key);
        Target to = world.targetOf(other);
        if (from == null || to == null) {
            return NONE;
        }
        if (from.stepCount == 0) {
            return STATE;
        }
        to.takeRule(from);
        return to.stepCount;
    }

    public int step(int key, int i) {
        Target target = world.targetOf(key);
        if (target == null || i < -1) {
            return NONE;
        }
        if (target.stepCount == 0) {
            return STATE;
        }
        if (i == -1) {
            return target.stepCount;
        }
        return i < target.stepCount ? 100 * target.signAt(i) + target.figuresAt(i) : NONE;
    }

    public int build(int key) {
        return isTarget(key) ? builder.startsFor(key) : NONE;
    }

    public int all(int stops) {
        return isStops(stops) ? builder.buildEach(ALL_TARGETS, stops == 1) : NONE;
    }

    public int some(int set, int stops) {
        if (set < 0 || set > ALL_TARGETS) {
            return BAD;
        }
        return isStops(stops) ? builder.buildEach(set, stops == 1) : NONE;
    }

    public int tried(int key, int input, int v) {
        if (!isTarget(key) || !isInput(input)) {
            return NONE;
        }
        if (!isContent(v)) {
            return BAD;
        }
        trier.world.copyFrom(world);
        trier.world.giveContent(input, v);
        return trier.startsFor(key);
    }

    public int result(int key) {
        return isKey(key) ? world.toldResult(key) : NONE;
    }

    public int failure(int key, int i, int what) {
        if (!isTarget(key) || what < 0 || what > 2) {
            return NONE;
        }
        Result failure = i < 0 ? null : world.failureOf(key);
        for (int behind = 0; failure != null && behind < i; behind++) {
            failure = failure.cause;
        }
        if (failure == null) {
            return STATE;
        }
        if (what == 0) {
            return failure.key;
        }
        return what == 1 ? failure.sort : failure.step;
    }

    public int causes(int key) {
        if (!isTarget(key)) {
            return NONE;
        }
        Result failure = world.failureOf(key);
        return failure == null ? NOT_SO : failure.causeCount();
    }

    public int root(int key) {
        if (!isTarget(key)) {
            return NONE;
        }
        Result failure = world.failureOf(key);
        return failure == null ? NOT_SO : failure.rootKey();
    }

    public int blamed(int key) {
        return isKey(key) ? world.targetsFailingBy(key) : NONE;
    }

    public int trace(int key, int i) {
        Target target = world.targetOf(key);
        if (target == null || i < -1) {
            return NONE;
        }
        if (!target.hasTrace()) {
            return STATE;
        }
        return i == -1 ? target.traceLength : target.tracedKey(i);
    }

    public int seen(int key, int i) {
        Target target = world.targetOf(key);
        if (target == null || i < 0) {
            return NONE;
        }
        if (!target.hasTrace()) {
            return STATE;
        }
        Result saw = target.tracedResult(i);
        return saw == null ? NONE : saw.asTold();
    }

    public int users(int key) {
        return isKey(key) ? world.targetsTracing(key) : NONE;
    }

    public int depth(int key) {
        return isKey(key) ? world.depthOf(key) : NONE;
    }

    public int order(int i) {
        return i < 0 ? NONE : builder.doneAt(i);
    }

    public int unlike() {
        return world.unlikeResults();
    }

    public int fresh() {
        return world.targetsUpToDate();
    }

    public int forget(int key) {
        Target target = world.targetOf(key);
        if (target == null) {
            return NONE;
        }
        boolean hadSomething = target.result != null || target.hasTrace();
        target.result = null;
        target.dropTrace();
        return hadSomething ? 1 : 0;
    }

    public int told(int what) {
        switch (what) {
            case 0: return builder.starts;
            case 1: return builder.putOffs;
            case 2: return builder.spared;
            case 3: return builder.cuts;
            case 4: return world.ruleCount();
            case 5: return world.resultCount();
            case 6: return world.failureCount();
            case 7: return world.traceCount();
            case 8: return tape.length;
            case 9: return builder.doneCount;
            case 10: return builder.stoppedBy;
            default: return NONE;
        }
    }

    public int list(int list, int n) {
        Row row = rowOf(list);
        if (row == null) {
            return NONE;
        }
        if (n > PLACES) {
            return BAD;
        }
        if (n < 0) {
            return BELOW;
        }
        row.hold(n);
        return 1;
    }

    public int put(int list, int i, long v) {
        Row row = rowOf(list);
        if (row == null) {
            return NONE;
        }
        if (!row.held) {
            return NOTHING;
        }
        return row.write(i, v) ? 1 : BEYOND;
    }

    public long get(int list, int i) {
        Row row = rowOf(list);
        return row == null ? NO : row.read(i);
    }

    public int move(int list, int i, int other, int j, int n) {
        Row from = rowOf(list);
        Row to = rowOf(other);
        if (from == null || to == null) {
            return NONE;
        }
        if (!from.held || !to.held) {
            return NOTHING;
        }
        if (!from.hasSpan(i, n) || !to.hasSpan(j, n)) {
            return BEYOND;
        }
        System.arraycopy(from.places, i, to.places, j, n);
        return n;
    }

    public int lay(int list, int i) {
        Row row = rowOf(list);
        if (row == null) {
            return NONE;
        }
        if (!row.held) {
            return NOTHING;
        }
        for (int laid = 0; laid < TARGETS; laid++) {
            if (!row.write(i + laid, world.toldResult(INPUTS + laid))) {
                return BEYOND;
            }
        }
        return TARGETS;
    }

    public int judge(int list, int i) {
        Row row = rowOf(list);
        if (row == null) {
            return NONE;
        }
        if (!row.held) {
            return NOTHING;
        }
        for (int looked = 0; looked < TARGETS; looked++) {
            if (!row.hasPlace(i + looked)) {
                return ENDED + looked;
            }
            if (row.read(i + looked) != world.toldResult(INPUTS + looked)) {
                return looked;
            }
        }
        return NOT_SO;
    }

    public int image() {
        imageWorld.copyFrom(world);
        hasImage = true;
        return world.resultCount();
    }

    public int undo() {
        if (!hasImage) {
            return STATE;
        }
        world.copyFrom(imageWorld);
        builder.forgetBuild();
        return world.resultCount();
    }

    private Row rowOf(int list) {
        return list >= 0 && list < LISTS ? rows[list] : null;
    }

    private static boolean isInput(int key) {
        return key >= 0 && key < INPUTS;
    }

    private static boolean isTarget(int key) {
        return key >= INPUTS && key < KEYS;
    }

    private static boolean isKey(int key) {
        return key >= 0 && key < KEYS;
    }

    private static boolean isContent(long v) {
        return v >= -GREATEST_CONTENT && v <= GREATEST_CONTENT;
    }

    private static boolean isStops(int stops) {
        return stops == 0 || stops == 1;
    }

    private static boolean asksForKey(int sign) {
        return sign == '+' || sign == '-' || sign == '*' || sign == '/' || sign == '&';
    }

    private static boolean isSign(int letter) {
        return asksForKey(letter) || letter == '=' || letter == '%' || letter == '!' || letter == '?' || letter == '^';
    }

    private static boolean isFigure(int letter) {
        return letter >= '0' && letter <= '9';
    }

    /** A CONTENT (NO_SORT) or a FAILURE. Never changed, so worlds and TRACES may share it. */
    private static final class Result {
        final int content;
        final int key;
        final int sort;
        final int step;
        final Result cause;

        private Result(int content, int key, int sort, int step, Result cause) {
            this.content = content;
            this.key = key;
            this.sort = sort;
            this.step = step;
            this.cause = cause;
        }

        /** A CONTENT is of no KEY: equal numbers of unlike KEYS are the SAME. */
        static Result ofContent(int content) {
            return new Result(content, NONE, NO_SORT, NO_STEP, null);
        }

        static Result ofFailure(int key, int sort, int step, Result cause) {
            return new Result(0, key, sort, step, cause);
        }

        boolean isFailure() {
            return sort != NO_SORT;
        }

        int asTold() {
            return isFailure() ? NO_RESULT + sort : content;
        }

        int causeCount() {
            int count = 0;
            for (Result behind = cause; behind != null; behind = behind.cause) {
                count++;
            }
            return count;
        }

        int rootKey() {
            int last = key;
            for (Result behind = cause; behind != null; behind = behind.cause) {
                last = behind.key;
            }
            return last;
        }

        boolean isOrComesOfSort(int asked) {
            for (Result behind = this; behind != null; behind = behind.cause) {
                if (behind.sort == asked) {
                    return true;
                }
            }
            return false;
        }

        boolean isOrComesOfKey(int asked) {
            for (Result behind = this; behind != null; behind = behind.cause) {
                if (behind.key == asked) {
                    return true;
                }
            }
            return false;
        }

        /** Whether both are there and are the SAME. */
        static boolean areSame(Result one, Result other) {
            if (one == null || other == null) {
                return false;
            }
            Result a = one;
            Result b = other;
            while (a != null && b != null) {
                if (a.content != b.content || a.key != b.key || a.sort != b.sort || a.step != b.step) {
                    return false;
                }
                a = a.cause;
                b = b.cause;
            }
            return a == null && b == null;
        }
    }

    /** What is kept of a TARGET: its RULE, RESULT and TRACE. */
    private static final class Target {
        private static final int NO_TRACE = -1;

        /** 0: no RULE. */
        int stepCount;
        private final int[] signs = new int[STEPS];
        private final int[] figures = new int[STEPS];
        /** null: none. */
        Result result;
        int traceLength = NO_TRACE;
        private final int[] tracedKeys = new int[STEPS];
        private final Result[] tracedResults = new Result[STEPS];

        int signAt(int i) {
            return i >= 0 && i < stepCount ? signs[i] : NONE;
        }

        int figuresAt(int i) {
            return i >= 0 && i < stepCount ? figures[i] : NONE;
        }

        /** The TAPE must be without FAULT. */
        void readRule(Tape tape) {
            stepCount = Math.min(tape.length / STEP_LENGTH, STEPS);
            for (int i = 0; i < stepCount; i++) {
                signs[i] = tape.letterAt(i * STEP_LENGTH);
                figures[i] = tape.numberAt(i * STEP_LENGTH + 1);
            }
            dropTrace();
        }

        void takeRule(Target other) {
            copyRule(other);
            dropTrace();
        }

        private void copyRule(Target other) {
            stepCount = other.stepCount;
            System.arraycopy(other.signs, 0, signs, 0, STEPS);
            System.arraycopy(other.figures, 0, figures, 0, STEPS);
        }

        void dropRule() {
            stepCount = 0;
            dropTrace();
        }

        boolean hasTrace() {
            return traceLength != NO_TRACE;
        }

        void dropTrace() {
            traceLength = NO_TRACE;
        }

        void startTrace() {
            traceLength = 0;
        }

        void noteInTrace(int key, Result saw) {
            if (traces(key) || traceLength < 0 || traceLength >= STEPS) {
                return;
            }
            tracedKeys[traceLength] = key;
            tracedResults[traceLength] = saw;
            traceLength++;
        }

        boolean traces(int key) {
            for (int i = 0; i < traceLength; i++) {
                if (tracedKey(i) == key) {
                    return true;
                }
            }
            return false;
        }

        int tracedKey(int i) {
            return i >= 0 && i < traceLength ? tracedKeys[i] : NONE;
        }

        Result tracedResult(int i) {
            return i >= 0 && i < traceLength ? tracedResults[i] : null;
        }

        void copyFrom(Target other) {
            copyRule(other);
            result = other.result;
            traceLength = other.traceLength;
            System.arraycopy(other.tracedKeys, 0, tracedKeys, 0, STEPS);
            for (int i = 0; i < STEPS; i++) {
                tracedResults[i] = other.tracedResults[i];
            }
        }
    }

    /** INPUTS and TARGETS: all that THE IMAGE holds, and all that a tried BUILD must not touch. */
    private static final class World {
        /** null: no CONTENT. */
        private final Result[] contents = new Result[INPUTS];
        private final Target[] targets = new Target[TARGETS];
        /** The FAILURE EMPTY of each KEY, made once as it is always the SAME. */
        private final Result[] empties = new Result[KEYS];
        private final int[] depths = new int[KEYS];

        World() {
            for (int i = 0; i < TARGETS; i++) {
                targets[i] = new Target();
            }
            for (int key = 0; key < KEYS; key++) {
                empties[key] = Result.ofFailure(key, EMPTY, NO_STEP, null);
            }
        }

        /** null: it is no TARGET. */
        Target targetOf(int key) {
            return isTarget(key) ? targets[key - INPUTS] : null;
        }

        /** null: it is no INPUT or has no CONTENT. */
        Result contentOf(int key) {
            return isInput(key) ? contents[key] : null;
        }

        /** Whether that is another CONTENT than it was. */
        boolean giveContent(int key, int v) {
            Result was = contentOf(key);
            if (!isInput(key) || (was != null && was.content == v)) {
                return false;
            }
            contents[key] = Result.ofContent(v);
            return true;
        }

        void takeContent(int key) {
            if (isInput(key)) {
                contents[key] = null;
            }
        }

        Result emptyOf(int key) {
            return isKey(key) ? empties[key] : null;
        }

        /** null: none. */
        Result resultOf(int key) {
            Target target = targetOf(key);
            if (target != null) {
                return target.result;
            }
            Result content = contentOf(key);
            return content == null ? emptyOf(key) : content;
        }

        /** null: it has no RESULT, or one that is no FAILURE. */
        Result failureOf(int key) {
            Result result = resultOf(key);
            return result != null && result.isFailure() ? result : null;
        }

        int toldResult(int key) {
            Result result = resultOf(key);
            return result == null ? NO_RESULT : result.asTold();
        }

        int targetsFailingBy(int key) {
            int set = 0;
            for (int i = 0; i < TARGETS; i++) {
                Result failure = failureOf(INPUTS + i);
                if (failure != null && failure.isOrComesOfKey(key)) {
                    set |= 1 << i;
                }
            }
            return set;
        }

        int targetsTracing(int key) {
            int set = 0;
            for (int i = 0; i < TARGETS; i++) {
                Target target = targets[i];
                if (target != null && target.traces(key)) {
                    set |= 1 << i;
                }
            }
            return set;
        }

        int targetsUpToDate() {
            int set = 0;
            for (int i = 0; i < TARGETS; i++) {
                if (isUpToDate(targets[i])) {
                    set |= 1 << i;
                }
            }
            return set;
        }

        private boolean isUpToDate(Target target) {
            if (target == null || !target.hasTrace()) {
                return false;
            }
            for (int i = 0; i < target.traceLength; i++) {
                if (!Result.areSame(resultOf(target.tracedKey(i)), target.tracedResult(i))) {
                    return false;
                }
            }
            return true;
        }

        /** No TRACES form a ring, so a pass for each TARGET is enough, whatever their order. */
        int depthOf(int key) {
            Arrays.fill(depths, 0);
            boolean deepened = true;
            for (int pass = 0; deepened && pass < TARGETS; pass++) {
                deepened = deepenAll();
            }
            return isKey(key) ? depths[key] : 0;
        }

        private boolean deepenAll() {
            boolean deepened = false;
            for (int i = 0; i < TARGETS; i++) {
                int depth = depthByTrace(targets[i]);
                if (depth > depths[INPUTS + i]) {
                    depths[INPUTS + i] = depth;
                    deepened = true;
                }
            }
            return deepened;
        }

        private int depthByTrace(Target target) {
            if (target == null || target.traceLength < 1) {
                return 0;
            }
            int greatest = 0;
            for (int i = 0; i < target.traceLength; i++) {
                int key = target.tracedKey(i);
                if (isKey(key)) {
                    greatest = Math.max(greatest, depths[key]);
                }
            }
            return greatest + 1;
        }

        int unlikeResults() {
            int count = 0;
            for (int key = INPUTS; key < KEYS; key++) {
                if (resultOf(key) != null && !hasSameBelow(key)) {
                    count++;
                }
            }
            return count;
        }

        private boolean hasSameBelow(int key) {
            for (int other = INPUTS; other < key; other++) {
                if (Result.areSame(resultOf(other), resultOf(key))) {
                    return true;
                }
            }
            return false;
        }

        int ruleCount() {
            int count = 0;
            for (int i = 0; i < TARGETS; i++) {
                Target target = targets[i];
                if (target != null && target.stepCount > 0) {
                    count++;
                }
            }
            return count;
        }

        int traceCount() {
            int count = 0;
            for (int i = 0; i < TARGETS; i++) {
                Target target = targets[i];
                if (target != null && target.hasTrace()) {
                    count++;
                }
            }
            return count;
        }

        int resultCount() {
            int count = 0;
            for (int key = INPUTS; key < KEYS; key++) {
                if (resultOf(key) != null) {
                    count++;
                }
            }
            return count;
        }

        int failureCount() {
            int count = 0;
            for (int key = INPUTS; key < KEYS; key++) {
                if (failureOf(key) != null) {
                    count++;
                }
            }
            return count;
        }

        void copyFrom(World other) {
            for (int key = 0; key < INPUTS; key++) {
                contents[key] = other.contents[key];
            }
            for (int i = 0; i < TARGETS; i++) {
                Target to = targets[i];
                Target from = other.targets[i];
                if (to != null && from != null) {
                    to.copyFrom(from);
                }
            }
        }
    }

    /** The BUILDS of one world, what they count, and what is kept of the latest. */
    private static final class Builder {
        final World world = new World();
        /** ORDER. */
        private final int[] doneKeys = new int[TARGETS];
        int doneCount;
        /** The TARGETS that are DONE, and those that are being BUILT, as bits. */
        private int done;
        private int open;
        int stoppedBy = NOT_SO;
        int starts;
        int putOffs;
        int spared;
        int cuts;
        /** The TARGET for which the latest RUN was PUT OFF. */
        private int wanted;

        void forgetBuild() {
            doneCount = 0;
            done = 0;
            open = 0;
            stoppedBy = NOT_SO;
        }

        int doneAt(int i) {
            return i >= 0 && i < doneCount ? doneKeys[i] : NOT_SO;
        }

        /** A BUILD of one TARGET: how many STARTS it took. */
        int startsFor(int key) {
            int before = starts;
            forgetBuild();
            buildTarget(key, 1);
            return starts - before;
        }

        /** A BUILD of the TARGETS of a set: how many are DONE. */
        int buildEach(int set, boolean stopping) {
            forgetBuild();
            for (int key = INPUTS; key < KEYS; key++) {
                if (!isIn(set, key)) {
                    continue;
                }
                buildTarget(key, 1);
                if (stopping && world.failureOf(key) != null) {
                    stoppedBy = key;
                    break;
                }
            }
            return doneCount;
        }

        /** Each level has another TARGET being BUILT, so there are never more levels than TARGETS. */
        private void buildTarget(int key, int level) {
            Target target = world.targetOf(key);
            if (target == null || isIn(done | open, key) || level > TARGETS) {
                return;
            }
            open |= bitOf(key);
            if (target.stepCount == 0) {
                target.result = world.emptyOf(key);
            } else if (isStillSame(target, level)) {
                spared++;
            } else {
                runToEnd(key, target, level);
            }
            open &= ~bitOf(key);
            noteDone(key);
        }

        private void noteDone(int key) {
            if (doneCount >= 0 && doneCount < TARGETS) {
                doneKeys[doneCount] = key;
                doneCount++;
            }
            done |= bitOf(key);
        }

        /** Looks the TRACE through. */
        private boolean isStillSame(Target target, int level) {
            if (!target.hasTrace()) {
                return false;
            }
            for (int i = 0; i < target.traceLength; i++) {
                int key = target.tracedKey(i);
                if (isIn(open, key)) {
                    return false;
                }
                buildTarget(key, level + 1);
                if (!Result.areSame(world.resultOf(key), target.tracedResult(i))) {
                    return false;
                }
            }
            return true;
        }

        private void runToEnd(int key, Target target, int level) {
            Result made = runOnce(key, target);
            // Each time it is PUT OFF one more TARGET gets DONE, so that can't be oftener than there are TARGETS.
            for (int i = 0; made == null && i < TARGETS; i++) {
                putOffs++;
                buildTarget(wanted, level + 1);
                made = runOnce(key, target);
            }
            if (made == null) {
                return;
            }
            if (Result.areSame(target.result, made)) {
                cuts++;
            }
            target.result = made;
            if (made.isOrComesOfSort(RING)) {
                target.dropTrace();
            }
        }

        /**
         * What the RULE comes to; null if the RUN is PUT OFF.
         * It writes the TARGET's own TRACE as it goes: nothing else reads that while the TARGET is being BUILT.
         */
        private Result runOnce(int key, Target target) {
            starts++;
            target.startTrace();
            long v = 0;
            int passing = 0;
            for (int at = 0; at < target.stepCount; at++) {
                if (passing > 0) {
                    passing--;
                    continue;
                }
                int sign = target.signAt(at);
                int n = target.figuresAt(at);
                long operand = n;
                if (asksForKey(sign)) {
                    if (isIn(open, n)) {
                        return Result.ofFailure(key, RING, at, null);
                    }
                    Result got = isInput(n) || isIn(done, n) ? world.resultOf(n) : null;
                    if (got == null) {
                        wanted = n;
                        return null;
                    }
                    target.noteInTrace(n, got);
                    if (got.isFailure()) {
                        return Result.ofFailure(key, NEEDS, at, got);
                    }
                    operand = got.content;
                }
                long next = worked(sign, v, operand);
                int sort = failingSort(sign, v, operand, next);
                if (sort != NO_SORT) {
                    return Result.ofFailure(key, sort, at, null);
                }
                v = next;
                passing = stepsToPass(sign, v, n);
            }
            return Result.ofContent((int) v);
        }

        private static long worked(int sign, long v, long operand) {
            switch (sign) {
                case '+': return v + operand;
                case '-': return v - operand;
                case '*': return v * operand;
                case '/': return operand == 0 ? v : v / operand;
                case '%': return operand == 0 ? v : v % operand;
                case '&': return operand;
                case '=': return operand;
                default: return v;
            }
        }

        private static int failingSort(int sign, long v, long operand, long next) {
            if ((sign == '/' || sign == '%') && operand == 0) {
                return NOUGHT;
            }
            if (sign == '!' && v > operand) {
                return TOLD;
            }
            return isContent(next) ? NO_SORT : OVER;
        }

        private static int stepsToPass(int sign, long v, int n) {
            return (sign == '?' && v == 0) || (sign == '^' && v < 0) ? n : 0;
        }

        private static int bitOf(int key) {
            return isTarget(key) ? 1 << (key - INPUTS) : 0;
        }

        private static boolean isIn(int set, int key) {
            return isTarget(key) && (set >> (key - INPUTS) & 1) == 1;
        }
    }

    /** THE TAPE. */
    private static final class Tape {
        private final int[] letters = new int[TAPE_LENGTH];
        int length;

        boolean append(int letter) {
            if (length < 0 || length >= TAPE_LENGTH) {
                return false;
            }
            letters[length] = letter;
            length++;
            return true;
        }

        /** How many bytes it had. */
        int empty() {
            int had = length;
            length = 0;
            return had;
        }

        int letterAt(int i) {
            return i >= 0 && i < length ? letters[i] : NONE;
        }

        /** What two figures from a place on tell. */
        int numberAt(int i) {
            return 10 * (letterAt(i) - '0') + letterAt(i + 1) - '0';
        }

        /** The FAULT of the text as a RULE, or NO_FAULT. */
        int faultAsRule() {
            for (int i = 0; i < length; i++) {
                int inStep = i % STEP_LENGTH;
                int letter = letterAt(i);
                if (i >= STEPS * STEP_LENGTH || !(inStep == 0 ? isSign(letter) : isFigure(letter))) {
                    return i;
                }
                if (inStep > 0 && tellsNoKey(i - inStep, inStep)) {
                    return i - inStep + 1;
                }
            }
            return length > 0 && length % STEP_LENGTH == 0 ? NO_FAULT : length;
        }

        /** Whether the figures that are there of the STEP from a place on, one or both, can tell no KEY it asks for. */
        private boolean tellsNoKey(int from, int figures) {
            // A 0 may still come behind the first figure: no number that goes on from it is less.
            int least = figures == 1 ? 10 * (letterAt(from + 1) - '0') : numberAt(from + 1);
            return asksForKey(letterAt(from)) && !isKey(least);
        }
    }

    /** A LIST. */
    private static final class Row {
        boolean held;
        final long[] places = new long[PLACES];
        private int size;

        void hold(int n) {
            held = true;
            size = Math.max(0, Math.min(n, PLACES));
            Arrays.fill(places, 0L);
        }

        boolean hasPlace(int i) {
            return i >= 0 && i < size;
        }

        /** Written so that no sum of i and n can wrap around. */
        boolean hasSpan(int i, int n) {
            return i >= 0 && n >= 0 && i <= size - n;
        }

        long read(int i) {
            return hasPlace(i) ? places[i] : NO;
        }

        boolean write(int i, long v) {
            if (!hasPlace(i)) {
                return false;
            }
            places[i] = v;
            return true;
        }
    }
}
