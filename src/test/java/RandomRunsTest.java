import java.util.ArrayList;
import java.util.List;
import java.util.Random;

/**
 * All promises: random runs of calls, each answer and much of what there is behind it held against
 * the slow model. The seeds are fixed, so that every run can be had again. To look is a call, too:
 * an object that has had its 512 goes, and a new one has the run's calls again.
 */
public final class RandomRunsTest {
    private static final int RUNS = 300;
    private static final int CALLS = 160;
    private static final int MOST_CALLS = 512;
    private static final int[] WILD = {
        Integer.MIN_VALUE, -65, -2, -1, 0, 1, 3, 4, 5, 7, 8, 11, 12, 63, 64, 255, 256, 512, 1000, 1001,
        1024, 1025, 16383, 16384, 16385, Integer.MAX_VALUE - 8, Integer.MAX_VALUE};
    private static final String[] KINDS = {
        "read", "write", "fill", "truncate", "punch", "sync", "syncAll", "tick", "drop", "crash",
        "fail", "pin", "wild"};
    private static final int[][] WEIGHTS = {
        {30, 15, 10, 4, 3, 4, 2, 8, 1, 1, 4, 8, 10}, // of all some
        {10, 20, 20, 1, 1, 1, 1, 2, 0, 0, 12, 12, 0}, // blocks that fail: no frames
        {60, 4, 4, 1, 1, 2, 1, 2, 2, 0, 0, 3, 0}, // much read, shadows
        {8, 30, 20, 3, 3, 3, 3, 14, 1, 1, 3, 3, 0}}; // much written, late

    private static final Due DUE = new Due("RandomRunsTest");

    /** A call that can be had again by another object. */
    private interface Call {
        long on(PageHold x);
    }

    private final Random random;
    private final int frames;
    private final int blocks;
    private final SlowModel model;
    private final int files;
    private final int span;
    private final int[] weights;
    private final List<Call> calls = new ArrayList<>();
    private PageHold real;
    private int used = 0;
    private String call = "";
    private static final int[] seen = new int[6];

    private RandomRunsTest(int seed) {
        random = new Random(seed);
        frames = 4 + random.nextInt(random.nextInt(4) == 0 ? 61 : 6);
        blocks = 8 + random.nextInt(random.nextInt(3) == 0 ? 60 : 12);
        real = new PageHold(frames, blocks);
        model = new SlowModel(frames, blocks);
        files = 1 + random.nextInt(random.nextInt(4) == 0 ? 12 : 3);
        span = 1 + random.nextInt(random.nextInt(5) == 0 ? 16384 : 64 * 3 * frames);
        weights = WEIGHTS[random.nextInt(WEIGHTS.length)];
    }

    public static void main(String[] args) {
        for (int seed = 0; seed < RUNS; seed++) {
            RandomRunsTest run = new RandomRunsTest(seed);
            for (int i = 0; i < CALLS && !DUE.isWrong(); i++) {
                run.step("seed " + seed + " call " + i + ": ");
            }
        }
        // Runs that never come by the rare answers would prove nothing of them.
        String[] rare = {"NO_FRAME", "NO_ROOM", "DEFECT", "cut short", "wild", "to ACTIVE"};
        for (int i = 0; i < rare.length; i++) {
            DUE.is("often enough: " + rare[i], seen[i] >= 50, true);
        }
        DUE.end();
    }

    /** The object that has had all calls of the run till now, and has one more left. */
    private PageHold real() {
        if (used == MOST_CALLS) {
            real = new PageHold(frames, blocks);
            for (Call c : calls) {
                c.on(real);
            }
            used = calls.size();
        }
        used++;
        return real;
    }

    private void step(String where) {
        int active = model.active.size();
        long[] answers = doOne(KINDS[kind()]);
        DUE.is(where + call, answers[0], answers[1]);
        count(answers[1]);
        if (call.startsWith("read") && model.active.size() > active) {
            seen[5]++;
        }
        compareAll(where + "behind " + call + " ");
    }

    private void count(long answer) {
        seen[0] += answer == SlowModel.NO_FRAME ? 1 : 0;
        seen[1] += answer == SlowModel.NO_ROOM ? 1 : 0;
        seen[2] += answer == SlowModel.DEFECT ? 1 : 0;
    }

    private int kind() {
        int all = 0;
        for (int w : weights) {
            all += w;
        }
        int pick = random.nextInt(all);
        int kind = 0;
        while (pick >= weights[kind]) {
            pick -= weights[kind];
            kind++;
        }
        return kind;
    }

    private int file() {
        return random.nextInt(files);
    }

    private int place() {
        return random.nextInt(span);
    }

    /** What the object answers, and what is due. */
    private long[] both(Call c, long due) {
        long got = c.on(real());
        calls.add(c);
        return new long[] {got, due};
    }

    private static int asInt(boolean answer) {
        return answer ? 1 : 0;
    }

    private void named(String name, Object... args) {
        StringBuilder text = new StringBuilder(name).append('(');
        for (int i = 0; i < args.length; i++) {
            text.append(i == 0 ? "" : ", ").append(args[i]);
        }
        call = text.append(')').toString();
    }

    private long[] doOne(String kind) {
        int f = file();
        int at = place();
        int n = 1 + random.nextInt(random.nextInt(3) == 0 ? 1024 : 200);
        int page = at / 64;
        switch (kind) {
            case "read": {
                // Half of the reads go on where the ahead ones ended, or begin at a page.
                int choice = random.nextInt(4);
                int from = choice == 0 ? 64 * model.next[f] : choice == 1 ? 64 * page : at;
                named("read", f, from, n);
                return both(x -> x.read(f, from, n), model.read(f, from, n));
            }
            case "write": {
                long row = random.nextLong();
                int few = 1 + random.nextInt(8);
                named("write", f, at, row, few);
                return both(x -> x.write(f, at, row, few), model.write(f, at, row, few));
            }
            case "fill": {
                int v = random.nextInt();
                named("fill", f, at, n, v);
                long[] answers = both(x -> x.fill(f, at, n, v), model.fill(f, at, n, v));
                seen[3] += answers[1] > 0 && answers[1] < n ? 1 : 0;
                return answers;
            }
            case "truncate": {
                int to = random.nextInt(3) == 0 ? 64 * page : at;
                named("truncate", f, to);
                return both(x -> x.truncate(f, to), model.truncate(f, to));
            }
            case "punch": {
                int many = 1 + random.nextInt(random.nextInt(4) == 0 ? 256 : 3);
                named("punch", f, page, many);
                return both(x -> x.punch(f, page, many), model.punch(f, page, many));
            }
            case "pin": {
                boolean on = random.nextInt(3) != 0;
                named("pin", f, page, on);
                return both(x -> asInt(x.pin(f, page, on)), asInt(model.pin(f, page, on)));
            }
            default:
                return doOther(kind, f);
        }
    }

    private long[] doOther(String kind, int f) {
        switch (kind) {
            case "sync":
                named("sync", f);
                return both(x -> x.sync(f), model.sync(f));
            case "syncAll":
                named("syncAll");
                return both(x -> x.syncAll(), model.syncAll());
            case "tick": {
                int seconds = random.nextInt(random.nextInt(20) == 0 ? 30 : 4);
                named("tick", seconds);
                return both(x -> x.tick(seconds), model.tick(seconds));
            }
            case "drop":
                named("drop");
                return both(x -> x.drop(), model.drop());
            case "crash":
                named("crash");
                return both(x -> x.crash(), model.crash());
            case "fail": {
                int block = random.nextInt(model.blocks);
                boolean on = random.nextInt(5) < 3;
                named("fail", block, on);
                return both(x -> asInt(x.fail(block, on)), asInt(model.fail(block, on)));
            }
            default:
                return doWild();
        }
    }

    private int wild() {
        return WILD[random.nextInt(WILD.length)];
    }

    /** Any arguments, most of them wrong. */
    private long[] doWild() {
        seen[4]++;
        int a = wild();
        int b = wild();
        int c = wild();
        int d = wild();
        boolean on = random.nextBoolean();
        int which = random.nextInt(18);
        named("wild " + which, a, b, c, d, on);
        switch (which) {
            case 0: return both(x -> x.read(a, b, c), model.read(a, b, c));
            case 1: return both(x -> x.hand(a), model.hand(a));
            case 2: return both(x -> x.write(a, b, c, d), model.write(a, b, c, d));
            case 3: return both(x -> x.fill(a, b, c, d), model.fill(a, b, c, d));
            case 4: return both(x -> x.truncate(a, b), model.truncate(a, b));
            case 5: return both(x -> x.punch(a, b, c), model.punch(a, b, c));
            case 6: return both(x -> x.sync(a), model.sync(a));
            case 7: return both(x -> x.tick(a), model.tick(a));
            case 8: return both(x -> asInt(x.fail(a, on)), asInt(model.fail(a, on)));
            case 9: return both(x -> asInt(x.pin(a, b, on)), asInt(model.pin(a, b, on)));
            case 10: return both(x -> x.size(a), model.size(a));
            case 11: return both(x -> x.page(a, b, c), model.page(a, b, c));
            case 12: return both(x -> x.next(a, b, c), model.next(a, b, c));
            case 13: return both(x -> x.tree(a, b), model.tree(a, b));
            case 14: return both(x -> x.listed(on, a), model.listed(on, a));
            case 15: return both(x -> x.disk(a, b), model.disk(a, b));
            case 16: return both(x -> x.run(a, b), model.run(a, b));
            default: return both(x -> x.told(a), model.told(a));
        }
    }

    private void compareAll(String where) {
        int[] told = model.allTold();
        for (int what = 0; what < told.length; what++) {
            DUE.is(where, "told", real().told(what), told[what]);
        }
        for (int f = 0; f < files; f++) {
            DUE.is(where, "size", real().size(f), model.size(f));
            for (int what = 0; what <= 5; what++) {
                DUE.is(where, "tree", real().tree(f, what), model.tree(f, what));
            }
        }
        for (int k = 0; k <= model.active.size(); k++) {
            DUE.is(where, "ACTIVE", real().listed(true, k), model.listed(true, k));
        }
        for (int k = 0; k <= model.inactive.size(); k++) {
            DUE.is(where, "INACTIVE", real().listed(false, k), model.listed(false, k));
        }
        for (int k = 0; k <= told[10]; k++) {
            for (int what = 0; what < 3; what++) {
                DUE.is(where, "run", real().run(k, what), model.run(k, what));
            }
        }
        comparePages(where);
        compareBytes(where);
    }

    private void comparePages(String where) {
        int f = file();
        for (int i = 0; i < 8; i++) {
            // Now and then one that no call comes by.
            int p = random.nextInt(Math.min(256, span / 64 + 18));
            for (int what = 0; what < 8; what++) {
                DUE.is(where, "page", real().page(f, p, what), model.page(f, p, what));
            }
        }
        int from = random.nextInt(256);
        for (int mark = 0; mark < 5; mark++) {
            DUE.is(where, "next", real().next(f, 0, mark), model.next(f, 0, mark));
            DUE.is(where, "next", real().next(f, from, mark), model.next(f, from, mark));
        }
    }

    private void compareBytes(String where) {
        int length = model.hand.size();
        DUE.is(where, "hand", real().hand(-1), model.hand(-1));
        DUE.is(where, "hand", real().hand(length), model.hand(length));
        for (int i = random.nextInt(9); i < length; i += 1 + random.nextInt(length / 4 + 1)) {
            DUE.is(where, "hand", real().hand(i), model.hand(i));
        }
        int block = random.nextInt(model.blocks);
        for (int i = 0; i < 64; i += 1 + random.nextInt(8)) {
            DUE.is(where, "disk", real().disk(block, i), model.disk(block, i));
        }
    }
}
