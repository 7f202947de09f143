/**
 * What the tests are run with a second time: it hands each call on to the program's own class, which
 * .ci/run names PageHeld for that, and ends the test at an object's 513th call. "An object is used
 * for at most 512 calls after it has been made": a test that looks on behind them holds nothing.
 */
public final class PageHold {
    public static final int NONE = PageHeld.NONE;
    public static final int BAD = PageHeld.BAD;
    public static final int NO_FRAME = PageHeld.NO_FRAME;
    public static final int NO_ROOM = PageHeld.NO_ROOM;
    public static final int DEFECT = PageHeld.DEFECT;

    private static final int MOST_CALLS = 512;

    private final PageHeld held;
    private int calls = 0;

    public PageHold(int frames, int blocks) {
        held = new PageHeld(frames, blocks);
    }

    private PageHeld once() {
        calls++;
        if (calls > MOST_CALLS) {
            new IllegalStateException("an object's call behind the 512th").printStackTrace();
            System.exit(1);
        }
        return held;
    }

    public int read(int file, int at, int n) {
        return once().read(file, at, n);
    }

    public int hand(int i) {
        return once().hand(i);
    }

    public int write(int file, int at, long row, int n) {
        return once().write(file, at, row, n);
    }

    public int fill(int file, int at, int n, int v) {
        return once().fill(file, at, n, v);
    }

    public int truncate(int file, int size) {
        return once().truncate(file, size);
    }

    public int punch(int file, int page, int n) {
        return once().punch(file, page, n);
    }

    public int sync(int file) {
        return once().sync(file);
    }

    public int syncAll() {
        return once().syncAll();
    }

    public int tick(int seconds) {
        return once().tick(seconds);
    }

    public int drop() {
        return once().drop();
    }

    public int crash() {
        return once().crash();
    }

    public boolean fail(int block, boolean fails) {
        return once().fail(block, fails);
    }

    public boolean pin(int file, int page, boolean pinned) {
        return once().pin(file, page, pinned);
    }

    public int size(int file) {
        return once().size(file);
    }

    public int page(int file, int page, int what) {
        return once().page(file, page, what);
    }

    public int next(int file, int page, int mark) {
        return once().next(file, page, mark);
    }

    public int tree(int file, int what) {
        return once().tree(file, what);
    }

    public int listed(boolean active, int k) {
        return once().listed(active, k);
    }

    public int disk(int block, int i) {
        return once().disk(block, i);
    }

    public int run(int k, int what) {
        return once().run(k, what);
    }

    public int told(int what) {
        return once().told(what);
    }
}
