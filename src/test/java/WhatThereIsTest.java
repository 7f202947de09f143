/** Promises 15 to 22: size, page, next, tree, listed, disk, run, told. */
public final class WhatThereIsTest {
    private static final int NONE = PageHold.NONE;
    private static final int BAD = PageHold.BAD;
    private static final int[] NO_FILES = {-1, 12, 256, Integer.MIN_VALUE, Integer.MAX_VALUE};
    private static final int[] NO_PAGES = {-1, 256, Integer.MIN_VALUE, Integer.MAX_VALUE};
    private static final Due DUE = new Due("WhatThereIsTest");

    public static void main(String[] args) {
        promise15Size();
        promise16Page();
        promise16WrongNumbers();
        promise17Next();
        promise18Height();
        promise18Nodes();
        promise18Others();
        promise19Listed();
        promise20Disk();
        promise21Run();
        promise22Told();
        DUE.end();
    }

    private static void promise15Size() {
        PageHold x = new PageHold(4, 8);
        for (int file = 0; file < 12; file++) {
            DUE.is("at first", x.size(file), 0);
        }
        for (int file : NO_FILES) {
            DUE.is("file " + file, x.size(file), BAD);
        }
        x.write(11, 16383, 1, 1);
        DUE.is("the most", x.size(11), 16384);
        x.truncate(11, 1);
        DUE.is("truncated", x.size(11), 1);
        x.fill(11, 1, 2, 0);
        DUE.is("grown", x.size(11), 3);
        DUE.is("another file", x.size(10), 0);
    }

    private static void promise16Page() {
        PageHold x = new PageHold(8, 8);
        DUE.page(x, 0, 0, NONE, NONE, NONE, NONE, NONE, 0, 0, 0);
        x.tick(3);
        x.write(2, 640, 1, 1);
        x.write(2, 704, 1, 1);
        DUE.page(x, 2, 10, 0, NONE, 3, NONE, 1, 0, 0, 0);
        DUE.page(x, 2, 11, 1, NONE, 3, NONE, 0, 0, 0, 0);
        x.sync(2);
        DUE.page(x, 2, 10, 0, 0, NONE, NONE, 1, 0, 0, 0);
        x.pin(2, 10, true);
        DUE.page(x, 2, 10, 0, 0, NONE, NONE, 1, 1, 1, 0);
        x.read(2, 640, 1);
        DUE.page(x, 2, 10, 0, 0, NONE, NONE, 0, 0, 1, 1);
        DUE.page(x, 2, 11, 1, 1, NONE, NONE, 0, 0, 0, 0);
        x.drop();
        DUE.page(x, 2, 11, NONE, 1, NONE, 1, NONE, 0, 0, 0);
        DUE.page(x, 3, 10, NONE, NONE, NONE, NONE, NONE, 0, 0, 0);
    }

    private static void promise16WrongNumbers() {
        PageHold x = new PageHold(8, 8);
        for (int what = 0; what <= 7; what++) {
            for (int file : NO_FILES) {
                DUE.is("file " + file, x.page(file, 0, what), BAD);
            }
            for (int page : NO_PAGES) {
                DUE.is("page " + page, x.page(0, page, what), BAD);
            }
        }
        for (int what : new int[] {-1, 8, Integer.MIN_VALUE, Integer.MAX_VALUE}) {
            DUE.is("what " + what, x.page(0, 0, what), BAD);
        }
        DUE.is("the last page", x.page(11, 255, 7), 0);
    }

    private static void promise17Next() {
        PageHold x = new PageHold(8, 16);
        x.truncate(4, 16384);
        x.write(4, 640, 1, 1); // 10: DIRTY
        x.pin(4, 20, true); // 20: PINNED
        x.pin(4, 30, true);
        x.pin(4, 30, false);
        x.drop(); // 30: shadow
        x.pin(4, 255, true);
        x.pin(4, 255, true); // 255: REFERENCED, PINNED
        int[] first = {10, 10, 255, 20, 30};
        int[] from11 = {20, NONE, 255, 20, 30};
        int[] from21 = {255, NONE, 255, 255, 30};
        int[] from31 = {255, NONE, 255, 255, NONE};
        for (int mark = 0; mark <= 4; mark++) {
            DUE.is("0, " + mark, x.next(4, 0, mark), first[mark]);
            DUE.is("11, " + mark, x.next(4, 11, mark), from11[mark]);
            DUE.is("21, " + mark, x.next(4, 21, mark), from21[mark]);
            DUE.is("31, " + mark, x.next(4, 31, mark), from31[mark]);
            DUE.is("another file, " + mark, x.next(5, 0, mark), NONE);
            for (int file : NO_FILES) {
                DUE.is("file " + file, x.next(file, 0, mark), BAD);
            }
            for (int page : NO_PAGES) {
                DUE.is("page " + page, x.next(4, page, mark), BAD);
            }
        }
        DUE.is("from itself on", x.next(4, 10, 1), 10);
        for (int mark : new int[] {-1, 5, Integer.MIN_VALUE, Integer.MAX_VALUE}) {
            DUE.is("mark " + mark, x.next(4, 0, mark), BAD);
        }
    }

    private static void promise18Height() {
        int[][] pages = {{0, 1}, {3, 1}, {4, 2}, {15, 2}, {16, 3}, {63, 3}, {64, 4}, {255, 4}};
        for (int[] pair : pages) {
            PageHold x = new PageHold(8, 16);
            DUE.is("without entries", x.tree(7, 0), 0);
            DUE.is("without entries", x.tree(7, 1), 0);
            x.write(7, 64 * pair[0], 1, 1);
            DUE.is("height with " + pair[0], x.tree(7, 0), pair[1]);
            DUE.is("nodes with " + pair[0], x.tree(7, 1), pair[1]);
            DUE.is("entries", x.tree(7, 2), 1);
            x.sync(7);
            x.drop();
            DUE.is("a shadow is an entry", x.tree(7, 0), pair[1]);
            DUE.is("a shadow is an entry", x.tree(7, 2), 1);
            x.crash();
            DUE.is("a block is none", x.tree(7, 0), 0);
            DUE.is("a block is none", x.tree(7, 2), 0);
        }
    }

    private static void promise18Nodes() {
        PageHold x = new PageHold(16, 16);
        int[] pages = {0, 1, 3, 4, 16, 17, 63, 64};
        // In fours: 0 1 4 15 16; in sixteens: 0 1 3 4; in 64s: 0 1; in 256s: 0.
        int[] heights = {1, 1, 1, 2, 3, 3, 3, 4};
        int[] nodes = {1, 1, 1, 3, 6, 6, 8, 12};
        for (int i = 0; i < pages.length; i++) {
            x.write(0, 64 * pages[i], 1, 1);
            DUE.is("height with " + pages[i], x.tree(0, 0), heights[i]);
            DUE.is("nodes with " + pages[i], x.tree(0, 1), nodes[i]);
            DUE.is("entries with " + pages[i], x.tree(0, 2), i + 1);
        }
        x.punch(0, 4, 252);
        DUE.is("height of what is left", x.tree(0, 0), 1);
        DUE.is("nodes of what is left", x.tree(0, 1), 1);
        DUE.is("entries that are left", x.tree(0, 2), 3);
        x.punch(0, 0, 256);
        DUE.is("nothing is left", x.tree(0, 0), 0);
    }

    private static void promise18Others() {
        PageHold x = new PageHold(8, 8);
        x.truncate(0, 16384);
        DUE.is("WINDOW at first", x.tree(0, 3), 1);
        DUE.is("NEXT at first", x.tree(0, 4), 0);
        DUE.is("no ERROR at first", x.tree(0, 5), 0);
        int[] windows = {2, 4, 8, 8};
        int[] nexts = {2, 6, 14, 22};
        for (int i = 0; i < windows.length; i++) {
            x.read(0, 64 * x.tree(0, 4), 1);
            DUE.is("WINDOW", x.tree(0, 3), windows[i]);
            DUE.is("NEXT", x.tree(0, 4), nexts[i]);
        }
        DUE.is("another file's", x.tree(1, 3), 1);
        x.fail(0, true);
        x.write(0, 0, 1, 1);
        x.syncAll();
        DUE.is("ERROR", x.tree(0, 5), PageHold.DEFECT);
        DUE.is("ERROR once more", x.tree(0, 5), PageHold.DEFECT);
        DUE.is("another file's", x.tree(1, 5), 0);
        for (int what = 0; what <= 5; what++) {
            for (int file : NO_FILES) {
                DUE.is("file " + file, x.tree(file, what), BAD);
            }
        }
        for (int what : new int[] {-1, 6, Integer.MIN_VALUE, Integer.MAX_VALUE}) {
            DUE.is("what " + what, x.tree(0, what), BAD);
        }
    }

    private static void promise19Listed() {
        PageHold x = new PageHold(8, 8);
        x.write(11, 16383, 1, 1);
        x.write(1, 64, 1, 1);
        x.write(0, 0, 1, 1);
        for (int i = 0; i < 2; i++) {
            x.write(11, 16383, 1, 1);
            x.write(1, 64, 1, 1);
        }
        DUE.is("ACTIVE, front", x.listed(true, 0), 257);
        DUE.is("ACTIVE, end", x.listed(true, 1), 256 * 11 + 255);
        DUE.is("ACTIVE, behind", x.listed(true, 2), NONE);
        DUE.is("INACTIVE, front", x.listed(false, 0), 0);
        DUE.is("INACTIVE, behind", x.listed(false, 1), NONE);
        for (int k : new int[] {-1, 8, 64, Integer.MIN_VALUE, Integer.MAX_VALUE}) {
            DUE.is("ACTIVE, " + k, x.listed(true, k), NONE);
            DUE.is("INACTIVE, " + k, x.listed(false, k), NONE);
        }
        x.punch(1, 1, 1);
        DUE.is("one went", x.listed(true, 0), 256 * 11 + 255);
        DUE.is("its place", x.page(11, 255, 4), 0);
    }

    private static void promise20Disk() {
        PageHold x = new PageHold(8, 8);
        x.fill(0, 64, 64, 200);
        DUE.is("not yet", x.disk(0, 0), 0);
        x.sync(0);
        for (int i = 0; i < 64; i++) {
            DUE.is("byte " + i, x.disk(0, i), 200 + 3 * i & 255);
        }
        x.write(0, 64, 1, 1);
        DUE.is("as the disk has it", x.disk(0, 0), 200);
        DUE.is("the last block", x.disk(7, 63), 0);
        for (int block : new int[] {-1, 8, Integer.MIN_VALUE, Integer.MAX_VALUE}) {
            DUE.is("block " + block, x.disk(block, 0), BAD);
        }
        for (int i : new int[] {-1, 64, Integer.MIN_VALUE, Integer.MAX_VALUE}) {
            DUE.is("byte " + i, x.disk(0, i), BAD);
        }
    }

    private static void promise21Run() {
        PageHold x = new PageHold(16, 16);
        DUE.is("at first", x.run(0, 0), NONE);
        x.fill(0, 0, 448, 1);
        x.sync(0);
        x.punch(0, 3, 1);
        x.drop();
        DUE.is("read", x.read(0, 0, 448), 448);
        // 0 1 2, no block for 3, 4 5 6
        int[] runs = {0, 0, 3, 0, 4, 3};
        for (int i = 0; i < runs.length; i++) {
            DUE.is("run(" + i / 3 + ", " + i % 3 + ")", x.run(i / 3, i % 3), runs[i]);
        }
        DUE.is("RUNS", x.told(10), 2);
        for (int k : new int[] {-1, 2, 256, Integer.MIN_VALUE, Integer.MAX_VALUE}) {
            for (int what = 0; what <= 2; what++) {
                DUE.is("none such " + k, x.run(k, what), NONE);
            }
            DUE.is("BAD comes first", x.run(k, 3), BAD);
        }
        for (int what : new int[] {-1, 3, Integer.MIN_VALUE, Integer.MAX_VALUE}) {
            DUE.is("what " + what, x.run(0, what), BAD);
        }
        x.fill(0, 0, 1, 1);
        x.sync(0);
        DUE.is("a WRITE", x.run(0, 0), 1);
    }

    private static void promise22Told() {
        PageHold x = new PageHold(8, 8);
        DUE.told(x, "at first", 0, 0, 0, 0, 0, 0, 0, 0, 8, 0, 0, 0);
        x.fill(0, 0, 128, 1);
        x.sync(0);
        x.drop();
        x.tick(7);
        x.read(0, 0, 128);
        // None is ACTIVE: page 0, which went 1 ago, is INACTIVE, page 1, which went last, ACTIVE.
        DUE.told(x, "read again", 2, 1, 0, 0, 0, 2, 2, 2, 6, 7, 1, 0);
        x.pin(0, 0, true);
        x.pin(0, 0, true);
        DUE.told(x, "PINNED and ACTIVE", 2, 2, 0, 1, 0, 2, 2, 2, 6, 7, 1, 0);
        x.fail(2, true);
        x.fail(3, true);
        x.write(1, 0, 1, 1);
        x.write(2, 0, 1, 1);
        DUE.is("both fail", x.syncAll(), 0);
        DUE.told(x, "ERRORS", 4, 2, 2, 1, 0, 2, 2, 2, 4, 7, 1, 2);
        x.sync(1);
        x.drop();
        DUE.told(x, "one is told, one dropped", 3, 1, 2, 1, 1, 3, 2, 2, 4, 7, 1, 1);
        for (int what : new int[] {-1, 12, Integer.MIN_VALUE, Integer.MAX_VALUE}) {
            DUE.is("what " + what, x.told(what), BAD);
        }
    }
}
