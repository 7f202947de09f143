import java.util.ArrayList;
import java.util.List;
import java.util.function.ToIntFunction;

/**
 * "a call that is refused changes nothing, if nothing else is told. Of several the first one named
 * is answered." Every call with each of its wrong numbers, on an object that has some of all.
 */
public final class RefusedTest {
    private static final int FRAMES = 6;
    private static final int NONE = PageHold.NONE;
    private static final int BAD = PageHold.BAD;
    private static final int LEAST = Integer.MIN_VALUE;
    private static final int MOST = Integer.MAX_VALUE;
    private static final int[] NO_FILES = {-1, 12, LEAST, MOST};
    private static final int[] NO_PAGES = {-1, 256, LEAST, MOST};
    private static final Due DUE = new Due("RefusedTest");

    private static final List<String> NAMES = new ArrayList<>();
    private static final List<ToIntFunction<PageHold>> CALLS = new ArrayList<>();
    private static final List<Integer> ANSWERS = new ArrayList<>();

    public static void main(String[] args) {
        DUE.about("a call that is refused changes nothing, if nothing else is told");
        theObjectHasSomeOfAll();
        bytes();
        toTheDisk();
        whatThereIs();
        for (int i = 0; i < CALLS.size(); i++) {
            changesNothing(NAMES.get(i), CALLS.get(i), ANSWERS.get(i));
        }
        theFirstOneNamed();
        DUE.end();
    }

    /** ACTIVE and INACTIVE, REFERENCED, DIRTY and PINNED pages, shadows, an ERROR, HAND, RUNS. */
    private static PageHold made() {
        PageHold x = new PageHold(FRAMES, 8);
        x.fail(3, true);
        x.fill(0, 0, 192, 1);
        x.sync(0);
        x.drop();
        x.tick(3);
        x.truncate(1, 640);
        x.pin(1, 4, true);
        x.write(1, 0, 1, 1);
        x.syncAll();
        x.read(0, 0, 64);
        x.drop();
        x.read(0, 64, 64);
        x.read(0, 64, 5);
        return x;
    }

    private static void theObjectHasSomeOfAll() {
        PageHold x = made();
        // Pages 0 and 1 of file 0 came back and went again; then 1, which went last, came to ACTIVE.
        DUE.told(x, "made", 3, 1, 1, 1, 2, 5, 3, 3, 4, 3, 1, 1);
        DUE.lists(x, "made", "1", "256 260");
        DUE.is("REFERENCED", x.page(0, 1, 5), 1);
        DUE.is("HAND", x.hand(4), 1 + 3 * 68);
        DUE.is("NEXT", x.tree(0, 4), 2);
    }

    private static void changesNothing(String name, ToIntFunction<PageHold> call, int answer) {
        PageHold x = made();
        DUE.is(name, call.applyAsInt(x), answer);
        int[] behind = Scene.all(x, FRAMES);
        int[] before = Scene.all(made(), FRAMES);
        for (int i = 0; i < before.length; i++) {
            DUE.is("behind ", name + ", number " + i, behind[i], before[i]);
        }
        // What can not be seen: which blocks fail.
        for (int block = 0; block < 8; block++) {
            DUE.is("behind ", name + ", block " + block, x.fail(block, true) ? 1 : 0, block == 3 ? 0 : 1);
        }
    }

    private static void add(String name, int answer, ToIntFunction<PageHold> call) {
        NAMES.add(name);
        ANSWERS.add(answer);
        CALLS.add(call);
    }

    private static int asInt(boolean answer) {
        return answer ? 1 : 0;
    }

    private static void bytes() {
        for (int f : NO_FILES) {
            add("read, file " + f, BAD, x -> x.read(f, 0, 1));
            add("write, file " + f, BAD, x -> x.write(f, 0, 1, 1));
            add("fill, file " + f, BAD, x -> x.fill(f, 0, 1, 1));
            add("truncate, file " + f, BAD, x -> x.truncate(f, 0));
            add("punch, file " + f, BAD, x -> x.punch(f, 0, 1));
        }
        for (int at : new int[] {-1, LEAST}) {
            add("read, at " + at, BAD, x -> x.read(0, at, 1));
        }
        for (int at : new int[] {-1, LEAST, 16384, MOST}) {
            add("write, at " + at, BAD, x -> x.write(0, at, 1, 1));
            add("fill, at " + at, BAD, x -> x.fill(0, at, 1, 1));
        }
        add("write, 16385 together", BAD, x -> x.write(0, 16377, 1, 8));
        add("fill, 16385 together", BAD, x -> x.fill(0, 15361, 1024, 1));
        for (int n : new int[] {-1, 0, 1025, LEAST, MOST}) {
            add("read, n " + n, BAD, x -> x.read(0, 0, n));
            add("fill, n " + n, BAD, x -> x.fill(0, 0, n, 1));
            add("write, n " + n, BAD, x -> x.write(0, 0, 1, n));
            add("punch, n " + n, BAD, x -> x.punch(0, 0, n));
        }
        add("write, n 9", BAD, x -> x.write(0, 0, 1, 9));
        add("punch, n 257", BAD, x -> x.punch(0, 0, 257));
        for (int page : NO_PAGES) {
            add("punch, page " + page, BAD, x -> x.punch(0, page, 256));
        }
        for (int size : new int[] {-1, 16385, LEAST, MOST}) {
            add("truncate, size " + size, BAD, x -> x.truncate(0, size));
        }
        add("hand, -1", NONE, x -> x.hand(-1));
        add("hand, 5", NONE, x -> x.hand(5));
    }

    private static void toTheDisk() {
        for (int f : NO_FILES) {
            add("sync, file " + f, BAD, x -> x.sync(f));
            add("pin, file " + f, 0, x -> asInt(x.pin(f, 0, true)));
            add("pin no more, file " + f, 0, x -> asInt(x.pin(f, 0, false)));
        }
        for (int seconds : new int[] {-1, 1001, LEAST, MOST}) {
            add("tick, " + seconds, BAD, x -> x.tick(seconds));
        }
        for (int block : new int[] {-1, 8, LEAST, MOST}) {
            add("fail, " + block, 0, x -> asInt(x.fail(block, true)));
            add("fail no more, " + block, 0, x -> asInt(x.fail(block, false)));
        }
        for (int page : NO_PAGES) {
            add("pin, page " + page, 0, x -> asInt(x.pin(1, page, true)));
            add("pin no more, page " + page, 0, x -> asInt(x.pin(1, page, false)));
        }
        add("pin without a byte", 0, x -> asInt(x.pin(1, 10, true)));
        add("pin no more without a byte", 0, x -> asInt(x.pin(1, 10, false)));
        add("pin no more, OUT", 0, x -> asInt(x.pin(0, 1, false)));
    }

    private static void whatThereIs() {
        for (int f : NO_FILES) {
            add("size, file " + f, BAD, x -> x.size(f));
            add("page, file " + f, BAD, x -> x.page(f, 0, 0));
            add("next, file " + f, BAD, x -> x.next(f, 0, 0));
            add("tree, file " + f, BAD, x -> x.tree(f, 5));
        }
        for (int page : NO_PAGES) {
            add("page, page " + page, BAD, x -> x.page(0, page, 0));
            add("next, page " + page, BAD, x -> x.next(0, page, 0));
        }
        for (int what : new int[] {-1, 12, LEAST, MOST}) {
            add("page, what " + what, BAD, x -> x.page(0, 0, what));
            add("next, mark " + what, BAD, x -> x.next(0, 0, what));
            add("tree, what " + what, BAD, x -> x.tree(1, what));
            add("run, what " + what, BAD, x -> x.run(0, what));
            add("told, what " + what, BAD, x -> x.told(what));
            add("disk, block " + what, BAD, x -> x.disk(what, 0));
        }
        for (int k : new int[] {-1, 6, LEAST, MOST}) {
            add("listed, " + k, NONE, x -> x.listed(true, k) & x.listed(false, k));
            add("run, " + k, NONE, x -> x.run(k, 0));
        }
        add("disk, byte -1", BAD, x -> x.disk(0, -1));
        add("disk, byte 64", BAD, x -> x.disk(0, 64));
        add("tree tells no ERROR away", PageHold.DEFECT, x -> x.tree(1, 5));
        add("told tells no ERROR away", 1, x -> x.told(11));
    }

    /** Where there is no frame, wrong numbers are answered all the same. */
    private static void theFirstOneNamed() {
        DUE.about("Of several the first one named is answered");
        PageHold x = Scene.withoutFrames(4);
        x.truncate(1, 640);
        DUE.is("NO_FRAME alone", x.read(1, 0, 1), PageHold.NO_FRAME);
        DUE.is("read, n", x.read(1, 0, 1025), BAD);
        DUE.is("read, at", x.read(1, -1, 1), BAD);
        DUE.is("write, n", x.write(1, 0, 1, 9), BAD);
        DUE.is("write, at", x.write(1, 16384, 1, 1), BAD);
        DUE.is("fill, n", x.fill(1, 0, 1025, 1), BAD);
        DUE.is("fill, at", x.fill(1, 15361, 1024, 1), BAD);
        DUE.is("sync, file with no ERROR", x.sync(12), BAD);
        DUE.is("run, none such and what", x.run(0, 3), BAD);
        DUE.is("page, nothing and what", x.page(1, 0, 8), BAD);
        DUE.is("next, nothing and mark", x.next(1, 0, 5), BAD);
        DUE.is("hand is as it was", x.hand(0), NONE);
    }
}
