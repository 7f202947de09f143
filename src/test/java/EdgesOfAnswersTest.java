/** Promises 1 and 15 to 22: each range, each BAD and each NONE that their sentences name. */
public final class EdgesOfAnswersTest {
    private static final int NONE = PageHold.NONE;
    private static final int BAD = PageHold.BAD;
    private static final int LEAST = Integer.MIN_VALUE;
    private static final int MOST = Integer.MAX_VALUE;
    private static final int[] NO_FILES = {-1, 12, LEAST, MOST};
    private static final int[] NO_PAGES = {-1, 256, LEAST, MOST};
    private static final Due DUE = new Due("EdgesOfAnswersTest");

    public static void main(String[] args) {
        newObject();
        size();
        pageNone();
        pageBad();
        nextPage();
        nextBad();
        treeOfAFile();
        treeBad();
        listedNone();
        disk();
        runNone();
        runBad();
        told();
        DUE.end();
    }

    // ---- promise 1

    private static void newObject() {
        DUE.about("so many frames (4 .. 64; 16 for any other number)");
        for (int frames : new int[] {LEAST, -4, -1, 0, 1, 3, 4, 5, 15, 16, 17, 63, 64, 65, 128, MOST}) {
            framesAre(frames, frames >= 4 && frames <= 64 ? frames : 16);
        }
        DUE.about("so many blocks (8 .. 512; 128 for any other)");
        for (int blocks : new int[] {LEAST, -8, -1, 0, 7, 8, 9, 127, 128, 129, 511, 512, 513, MOST}) {
            PageHold x = new PageHold(4, blocks);
            int due = blocks >= 8 && blocks <= 512 ? blocks : 128;
            DUE.is("free, " + blocks, x.told(8), due);
            DUE.is("the last, " + blocks, x.disk(due - 1, 63), 0);
            DUE.is("behind it, " + blocks, x.disk(due, 0), BAD);
            DUE.is("it can fail, " + blocks, x.fail(due - 1, true), true);
            DUE.is("none can behind it, " + blocks, x.fail(due, true), false);
        }
        PageHold x = new PageHold(3, 7);
        DUE.is("both are any other: blocks", x.told(8), 128);
    }

    private static void framesAre(int given, int due) {
        PageHold x = Scene.withPages(given, 8);
        for (int page = 0; page < due; page++) {
            Scene.bring(x, page);
        }
        DUE.is("IN, " + given, x.told(0), due);
        DUE.is("none went, " + given, x.told(5), 0);
        DUE.is("the last frame, " + given, x.page(0, due - 1, 0), due - 1);
        Scene.bring(x, due);
        DUE.is("IN still, " + given, x.told(0), due);
        DUE.is("one went, " + given, x.told(5), 1);
        for (int page = 0; page < due; page++) {
            x.pin(0, page, true);
        }
        DUE.is("PINNED, " + given, x.told(3), due / 2);
    }

    // ---- promise 15

    private static void size() {
        DUE.about("The size of a file. BAD.");
        PageHold x = new PageHold(4, 8);
        for (int file = 0; file < 12; file++) {
            DUE.is("at first", x.size(file), 0);
            x.truncate(file, 16384 - file);
        }
        for (int file = 0; file < 12; file++) {
            DUE.is("file " + file, x.size(file), 16384 - file);
        }
        for (int file : NO_FILES) {
            DUE.is("file " + file, x.size(file), BAD);
        }
    }

    // ---- promise 16

    private static void pageNone() {
        DUE.about("NONE for what it has not. 0 or 1: REFERENCED (5), PINNED (6), ACTIVE (7).");
        PageHold x = Scene.withPages(4, 8);
        DUE.page(x, 0, 0, NONE, NONE, NONE, NONE, NONE, 0, 0, 0);
        DUE.page(x, 11, 255, NONE, NONE, NONE, NONE, NONE, 0, 0, 0);
        Scene.bring(x, 0);
        DUE.page(x, 0, 0, 0, NONE, NONE, NONE, 0, 0, 0, 0);
        x.write(0, 0, 1, 1);
        DUE.page(x, 0, 0, 0, NONE, 0, NONE, 0, 1, 0, 0);
        x.pin(0, 0, true);
        DUE.page(x, 0, 0, 0, NONE, 0, NONE, 0, 0, 1, 1);
        x.sync(0);
        DUE.page(x, 0, 0, 0, 0, NONE, NONE, 0, 0, 1, 1);
        Scene.makeActive(x, 255);
        DUE.page(x, 0, 255, 1, NONE, NONE, NONE, 0, 0, 0, 1);
        DUE.page(x, 0, 0, 0, 0, NONE, NONE, 1, 0, 1, 1);
        x.pin(0, 0, false);
        x.drop();
        DUE.page(x, 0, 0, NONE, 0, NONE, 1, NONE, 0, 0, 0);
        DUE.page(x, 0, 255, NONE, NONE, NONE, 2, NONE, 0, 0, 0);
    }

    private static void pageBad() {
        DUE.about("BAD (file; page not 0 .. 255; what)");
        PageHold x = new PageHold(4, 8);
        for (int what = 0; what <= 7; what++) {
            for (int file : NO_FILES) {
                DUE.is("file " + file, x.page(file, 0, what), BAD);
            }
            for (int page : NO_PAGES) {
                DUE.is("page " + page, x.page(0, page, what), BAD);
            }
            DUE.is("none", x.page(11, 255, what), what < 5 ? NONE : 0);
        }
        for (int what : new int[] {-1, 8, LEAST, MOST}) {
            DUE.is("what " + what, x.page(0, 0, what), BAD);
            DUE.is("what of no page " + what, x.page(0, 256, what), BAD);
        }
    }

    // ---- promise 17

    /** 10 is DIRTY, 20 PINNED, 30 has a shadow, 255 is REFERENCED and PINNED. */
    private static PageHold withMarks() {
        PageHold x = Scene.withPages(8, 8, 30);
        x.drop();
        x.write(0, 640, 1, 1);
        x.pin(0, 20, true);
        x.pin(0, 255, true);
        x.pin(0, 255, true);
        return x;
    }

    private static void nextPage() {
        DUE.about("The first page from one on that is IN (mark = 0), DIRTY (1), REFERENCED (2)");
        int[] froms = {0, 9, 10, 11, 20, 21, 30, 31, 254, 255};
        int[][] answers = {
            {10, 10, 10, 20, 20, 255, 255, 255, 255, 255},
            {10, 10, 10, NONE, NONE, NONE, NONE, NONE, NONE, NONE},
            {255, 255, 255, 255, 255, 255, 255, 255, 255, 255},
            {20, 20, 20, 20, 20, 255, 255, 255, 255, 255},
            {30, 30, 30, 30, 30, 30, 30, NONE, NONE, NONE}};
        PageHold x = withMarks();
        for (int mark = 0; mark <= 4; mark++) {
            for (int i = 0; i < froms.length; i++) {
                String call = "next(0, " + froms[i] + ", " + mark + ")";
                DUE.is(call, x.next(0, froms[i], mark), answers[mark][i]);
            }
            DUE.is("of another file, " + mark, x.next(1, 0, mark), NONE);
            DUE.is("the last of the file, " + mark, x.next(11, 255, mark), NONE);
        }
    }

    private static void nextBad() {
        DUE.about("BAD (file; page not 0 .. 255; mark)");
        PageHold x = withMarks();
        for (int mark = 0; mark <= 4; mark++) {
            for (int file : NO_FILES) {
                DUE.is("file " + file, x.next(file, 0, mark), BAD);
            }
            for (int page : NO_PAGES) {
                DUE.is("page " + page, x.next(0, page, mark), BAD);
            }
        }
        for (int mark : new int[] {-1, 5, LEAST, MOST}) {
            DUE.is("mark " + mark, x.next(0, 0, mark), BAD);
            DUE.is("mark " + mark + " of a file without pages", x.next(1, 0, mark), BAD);
        }
    }

    // ---- promise 18

    private static void treeOfAFile() {
        DUE.about("its WINDOW (3), NEXT (4), 0 or its ERROR (5)");
        PageHold x = Scene.withPages(8, 8);
        int[] first = {0, 0, 0, 1, 0, 0};
        for (int what = 0; what <= 5; what++) {
            DUE.is("at first, " + what, x.tree(0, what), first[what]);
        }
        x.read(0, 0, 1);
        x.write(0, 1024, 1, 1);
        x.fail(0, true);
        x.syncAll();
        // Of 0, 1 and 16: by fours 0 4, by sixteens 0 1, by 64s 0.
        int[] behind = {3, 5, 3, 2, 2, PageHold.DEFECT};
        for (int what = 0; what <= 5; what++) {
            DUE.is("behind, " + what, x.tree(0, what), behind[what]);
            DUE.is("of another file, " + what, x.tree(11, what), first[what]);
        }
        x.punch(0, 0, 256);
        DUE.is("without entries: HEIGHT", x.tree(0, 0), 0);
        DUE.is("without entries: NODES", x.tree(0, 1), 0);
        DUE.is("without entries", x.tree(0, 2), 0);
        DUE.is("NEXT stays", x.tree(0, 4), 2);
    }

    private static void treeBad() {
        DUE.about("0 or its ERROR (5). BAD.");
        PageHold x = new PageHold(8, 8);
        for (int what = 0; what <= 5; what++) {
            for (int file : NO_FILES) {
                DUE.is("file " + file, x.tree(file, what), BAD);
            }
        }
        for (int what : new int[] {-1, 6, LEAST, MOST}) {
            DUE.is("what " + what, x.tree(0, what), BAD);
            DUE.is("what " + what, x.tree(12, what), BAD);
        }
    }

    // ---- promise 19

    private static void listedNone() {
        DUE.about("256 times the file and the page; NONE when there is none");
        PageHold x = new PageHold(4, 8);
        DUE.lists(x, "at first", "", "");
        for (int k : new int[] {-1, 4, 64, LEAST, MOST}) {
            DUE.is("ACTIVE " + k, x.listed(true, k), NONE);
            DUE.is("INACTIVE " + k, x.listed(false, k), NONE);
        }
        x.write(11, 16383, 1, 1);
        x.write(0, 0, 1, 1);
        DUE.lists(x, "two INACTIVE", "", "0 3071");
        x.write(11, 16383, 1, 1);
        x.write(11, 16383, 1, 1);
        DUE.lists(x, "one each", "3071", "0");
        for (int k : new int[] {-1, 1, 2, LEAST, MOST}) {
            DUE.is("ACTIVE " + k, x.listed(true, k), NONE);
            DUE.is("INACTIVE " + k, x.listed(false, k), NONE);
        }
        x.write(0, 0, 1, 1);
        x.write(0, 0, 1, 1);
        DUE.lists(x, "two ACTIVE", "0 3071", "");
    }

    // ---- promise 20

    private static void disk() {
        DUE.about("Byte i (0 .. 63) of a block as the disk has it. BAD.");
        PageHold x = new PageHold(8, 8);
        x.fill(0, 0, 512, 5);
        x.sync(0);
        for (int block = 0; block < 8; block++) {
            DUE.is("the first of " + block, x.disk(block, 0), 5 + 192 * block & 255);
            DUE.is("the last of " + block, x.disk(block, 63), 5 + 192 * block + 189 & 255);
            for (int i : new int[] {-1, 64, LEAST, MOST}) {
                DUE.is("byte " + i, x.disk(block, i), BAD);
            }
        }
        for (int block : new int[] {-1, 8, LEAST, MOST}) {
            DUE.is("block " + block, x.disk(block, 0), BAD);
            DUE.is("block " + block, x.disk(block, 64), BAD);
        }
        x.write(0, 0, 77, 1);
        DUE.is("not what the frame has", x.disk(0, 0), 5);
        x.truncate(0, 0);
        DUE.is("also of a free block", x.disk(0, 0), 5);
    }

    // ---- promise 21

    private static void runNone() {
        DUE.about("NONE when there is none such");
        PageHold x = new PageHold(8, 8);
        for (int what = 0; what <= 2; what++) {
            DUE.is("at first", x.run(0, what), NONE);
        }
        x.fill(0, 0, 192, 1);
        x.sync(0);
        x.fill(0, 0, 64, 2);
        x.fill(0, 128, 64, 2);
        x.sync(0);
        DUE.runs(x, "two", 1, 0, 1, 1, 2, 1);
        for (int what = 0; what <= 2; what++) {
            for (int k : new int[] {-1, 2, 3, LEAST, MOST}) {
                DUE.is("run(" + k + ", " + what + ")", x.run(k, what), NONE);
            }
        }
        x.drop();
        x.read(0, 64, 1);
        DUE.runs(x, "one, of the latest alone", 0, 1, 1);
        DUE.is("none behind it", x.run(1, 1), NONE);
    }

    private static void runBad() {
        DUE.about("BAD (what)");
        PageHold x = new PageHold(8, 8);
        x.fill(0, 0, 64, 1);
        x.sync(0);
        for (int what : new int[] {-1, 3, LEAST, MOST}) {
            for (int k : new int[] {-1, 0, 1, LEAST, MOST}) {
                DUE.is("run(" + k + ", " + what + ")", x.run(k, what), BAD);
            }
        }
    }

    // ---- promise 22

    private static void told() {
        DUE.about("BAD for another what");
        PageHold x = new PageHold(8, 8);
        for (int what : new int[] {-1, 12, LEAST, MOST}) {
            DUE.is("what " + what, x.told(what), BAD);
        }
        DUE.told(x, "at first", 0, 0, 0, 0, 0, 0, 0, 0, 8, 0, 0, 0);
        x.fail(1, true);
        x.fill(0, 0, 128, 1);
        x.truncate(1, 640);
        x.pin(1, 9, true);
        x.pin(1, 9, true);
        x.pin(1, 9, true);
        x.syncAll();
        x.drop();
        x.read(0, 0, 1);
        x.tick(2);
        // Page 0 came back to ACTIVE, for none went since; 1 is DIRTY, 9 of file 1 PINNED.
        DUE.told(x, "behind", 3, 2, 1, 1, 0, 1, 1, 1, 6, 2, 1, 1);
    }
}
