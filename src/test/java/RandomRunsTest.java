import java.util.Random;

/**
 * All promises: random runs of calls, each answer and all that there is behind it held against the
 * slow model. The seeds are fixed, so that every run can be had again. Only calls that may change
 * something are held below the document's 512: to look on costs far more, and PageHold counts none.
 */
public final class RandomRunsTest {
    private static final int RUNS = 300;
    private static final int CALLS = 160;
    private static final int[] WILD = {
        Integer.MIN_VALUE, -65, -2, -1, 0, 1, 3, 4, 5, 7, 8, 11, 12, 63, 64, 255, 256, 512, 1000, 1001,
        1024, 1025, 16383, 16384, 16385, Integer.MAX_VALUE - 8, Integer.MAX_VALUE};
    private static final String[] KINDS = {
        "read", "write", "fill", "truncate", "punch", "sync", "syncAll", "tick", "drop", "crash",
        "fail", "pin", "wild"};
    private static final int[][] WEIGHTS = {
        {30, 15, 10, 4, 3, 4, 2, 8, 1, 1, 4, 8, 10}, // of all some
        {10, 20, 20, 1, 1, 1, 1, 2, 0, 0, 12, 12, 0}, // blocks that fail: no frames
        {60, 4, 4, 1, 1, 2, 1, 2, 2, 0, 0, 3, 0}, // much read, shadows
        {8, 30, 20, 3, 3, 3, 3, 14, 1, 1, 3, 3, 0}}; // much written, late

    private static final Due DUE = new Due("RandomRunsTest");

    private final Random random;
    private final PageHold real;
    private final SlowModel model;
    private final int files;
    private final int span;
    private final int[] weights;
    private String call = "";
    private static final int[] seen = new int[6];

    private RandomRunsTest(int seed) {
        random = new Random(seed);
        int frames = 4 + random.nextInt(random.nextInt(4) == 0 ? 61 : 6);
        int blocks = 8 + random.nextInt(random.nextInt(3) == 0 ? 60 : 12);
        real = new PageHold(frames, blocks);
        model = new SlowModel(frames, blocks);
        files = 1 + random.nextInt(random.nextInt(4) == 0 ? 12 : 3);
        span = 1 + random.nextInt(random.nextInt(5) == 0 ? 16384 : 64 * 3 * frames);
        weights = WEIGHTS[random.nextInt(WEIGHTS.length)];
        call = "new PageHold(" + frames + ", " + blocks + ")";
    }

    public static void main(String[] args) {
        for (int seed = 0; seed < RUNS; seed++) {
            RandomRunsTest run = new RandomRunsTest(seed);
            for (int i = 0; i < CALLS && !DUE.isWrong(); i++) {
                run.step("seed " + seed + " call " + i + ": ");
            }
        }
        // Runs that never come by the rare answers would prove nothing of them.
        String[] rare = {"NO_FRAME", "NO_ROOM", "DEFECT", "cut short", "wild", "to ACTIVE"};
        for (int i = 0; i < rare.length; i++) {
            DUE.is("often enough: " + rare[i], seen[i] >= 50, true);
        }
        DUE.end();
    }

    private void step(String where) {
        int active = model.told(1);
        long[] answers = doOne(KINDS[kind()]);
        DUE.is(where + call, answers[0], answers[1]);
        count(answers[1]);
        if (call.startsWith("read") && model.told(1) > active) {
            seen[5]++;
        }
        compareAll(where + "behind " + call + " ");
    }

    private void count(long answer) {
        seen[0] += answer == SlowModel.NO_FRAME ? 1 : 0;
        seen[1] += answer == SlowModel.NO_ROOM ? 1 : 0;
        seen[2] += answer == SlowModel.DEFECT ? 1 : 0;
    }

    private int kind() {
        int all = 0;
        for (int w : weights) {
            all += w;
        }
        int pick = random.nextInt(all);
        int kind = 0;
        while (pick >= weights[kind]) {
            pick -= weights[kind];
            kind++;
        }
        return kind;
    }

    private int file() {
        return random.nextInt(files);
    }

    private int place() {
        return random.nextInt(span);
    }

    private long[] both(long got, long want) {
        return new long[] {got, want};
    }

    private long[] both(boolean got, boolean want) {
        return both(got ? 1 : 0, want ? 1 : 0);
    }

    private void named(String name, Object... args) {
        StringBuilder text = new StringBuilder(name).append('(');
        for (int i = 0; i < args.length; i++) {
            text.append(i == 0 ? "" : ", ").append(args[i]);
        }
        call = text.append(')').toString();
    }

    private long[] doOne(String kind) {
        int f = file();
        int at = place();
        int n = 1 + random.nextInt(random.nextInt(3) == 0 ? 1024 : 200);
        int page = at / 64;
        switch (kind) {
            case "read": {
                // Half of the reads go on where the ahead ones ended, or begin at a page.
                int choice = random.nextInt(4);
                int from = choice == 0 ? 64 * model.next[f] : choice == 1 ? 64 * page : at;
                return readBoth(f, from, n);
            }
            case "write": {
                long row = random.nextLong();
                int few = 1 + random.nextInt(8);
                named("write", f, at, row, few);
                return both(real.write(f, at, row, few), model.write(f, at, row, few));
            }
            case "fill": {
                int v = random.nextInt();
                named("fill", f, at, n, v);
                long[] answers = both(real.fill(f, at, n, v), model.fill(f, at, n, v));
                seen[3] += answers[1] > 0 && answers[1] < n ? 1 : 0;
                return answers;
            }
            case "truncate": {
                int to = random.nextInt(3) == 0 ? 64 * page : at;
                named("truncate", f, to);
                return both(real.truncate(f, to), model.truncate(f, to));
            }
            case "punch": {
                int many = 1 + random.nextInt(random.nextInt(4) == 0 ? 256 : 3);
                named("punch", f, page, many);
                return both(real.punch(f, page, many), model.punch(f, page, many));
            }
            case "pin": {
                boolean on = random.nextInt(3) != 0;
                named("pin", f, page, on);
                return both(real.pin(f, page, on), model.pin(f, page, on));
            }
            default:
                return doOther(kind, f);
        }
    }

    private long[] readBoth(int f, int at, int n) {
        named("read", f, at, n);
        return both(real.read(f, at, n), model.read(f, at, n));
    }

    private long[] doOther(String kind, int f) {
        switch (kind) {
            case "sync":
                named("sync", f);
                return both(real.sync(f), model.sync(f));
            case "syncAll":
                named("syncAll");
                return both(real.syncAll(), model.syncAll());
            case "tick": {
                int seconds = random.nextInt(random.nextInt(20) == 0 ? 30 : 4);
                named("tick", seconds);
                return both(real.tick(seconds), model.tick(seconds));
            }
            case "drop":
                named("drop");
                return both(real.drop(), model.drop());
            case "crash":
                named("crash");
                return both(real.crash(), model.crash());
            case "fail": {
                int block = random.nextInt(model.blocks);
                boolean on = random.nextInt(5) < 3;
                named("fail", block, on);
                return both(real.fail(block, on), model.fail(block, on));
            }
            default:
                return doWild();
        }
    }

    private int wild() {
        return WILD[random.nextInt(WILD.length)];
    }

    /** Any arguments, most of them wrong. */
    private long[] doWild() {
        seen[4]++;
        int a = wild();
        int b = wild();
        int c = wild();
        int d = wild();
        boolean on = random.nextBoolean();
        int which = random.nextInt(17);
        named("wild " + which, a, b, c, d, on);
        switch (which) {
            case 0: return both(real.read(a, b, c), model.read(a, b, c));
            case 1: return both(real.hand(a), model.hand(a));
            case 2: return both(real.write(a, b, c, d), model.write(a, b, c, d));
            case 3: return both(real.fill(a, b, c, d), model.fill(a, b, c, d));
            case 4: return both(real.truncate(a, b), model.truncate(a, b));
            case 5: return both(real.punch(a, b, c), model.punch(a, b, c));
            case 6: return both(real.sync(a), model.sync(a));
            case 7: return both(real.tick(a), model.tick(a));
            case 8: return both(real.fail(a, on), model.fail(a, on));
            case 9: return both(real.pin(a, b, on), model.pin(a, b, on));
            case 10: return both(real.size(a), model.size(a));
            case 11: return both(real.page(a, b, c), model.page(a, b, c));
            case 12: return both(real.next(a, b, c), model.next(a, b, c));
            case 13: return both(real.tree(a, b), model.tree(a, b));
            case 14: return both(real.listed(on, a), model.listed(on, a));
            case 15: return both(real.disk(a, b), model.disk(a, b));
            default: return both(real.run(a, b), model.run(a, b));
        }
    }

    private void compareAll(String where) {
        for (int what = 0; what < 12; what++) {
            DUE.is(where, "told", real.told(what), model.told(what));
        }
        for (int f = 0; f < 12; f++) {
            DUE.is(where, "size", real.size(f), model.size(f));
            for (int what = 0; what <= 5; what++) {
                DUE.is(where, "tree", real.tree(f, what), model.tree(f, what));
            }
        }
        for (int k = 0; k <= model.frames; k++) {
            DUE.is(where, "ACTIVE", real.listed(true, k), model.listed(true, k));
            DUE.is(where, "INACTIVE", real.listed(false, k), model.listed(false, k));
        }
        int runs = model.told(10);
        for (int k = 0; k <= runs; k++) {
            for (int what = 0; what < 3; what++) {
                DUE.is(where, "run", real.run(k, what), model.run(k, what));
            }
        }
        comparePages(where);
        compareBytes(where);
    }

    private void comparePages(String where) {
        int f = file();
        for (int p = 0; p < Math.min(256, span / 64 + 18); p++) {
            for (int what = 0; what < 8; what++) {
                DUE.is(where, "page", real.page(f, p, what), model.page(f, p, what));
            }
        }
        int from = random.nextInt(256);
        for (int mark = 0; mark < 5; mark++) {
            DUE.is(where, "next", real.next(f, 0, mark), model.next(f, 0, mark));
            DUE.is(where, "next", real.next(f, from, mark), model.next(f, from, mark));
        }
    }

    private void compareBytes(String where) {
        for (int i = -1; i <= model.hand.size(); i++) {
            DUE.is(where, "hand", real.hand(i), model.hand(i));
        }
        for (int k = 0; k < 3; k++) {
            int block = random.nextInt(model.blocks);
            for (int i = 0; i < 64; i++) {
                DUE.is(where, "disk", real.disk(block, i), model.disk(block, i));
            }
        }
    }
}
