/** Promises 8 to 14: sync, syncAll, tick, drop, crash, fail, pin. */
public final class ToDiskTest {
    private static final int NONE = PageHold.NONE;
    private static final int BAD = PageHold.BAD;
    private static final int NO_ROOM = PageHold.NO_ROOM;
    private static final int DEFECT = PageHold.DEFECT;
    private static final int[] NO_FILES = {-1, 12, 256, Integer.MIN_VALUE, Integer.MAX_VALUE};
    private static final Due DUE = new Due("ToDiskTest");

    public static void main(String[] args) {
        promise8Sync();
        promise8Errors();
        promise9SyncAll();
        promise9Errors();
        promise10Tick();
        promise10FourASecond();
        promise10ThoseThatFailCount();
        promise11Drop();
        promise12Crash();
        promise12WhatStays();
        promise13Fail();
        promise14Pin();
        promise14NothingIsDone();
        promise14NoFrame();
        DUE.end();
    }

    private static void run(PageHold x, int k, int kind, int first, int length) {
        DUE.is("run(" + k + ", 0)", x.run(k, 0), kind);
        DUE.is("run(" + k + ", 1)", x.run(k, 1), first);
        DUE.is("run(" + k + ", 2)", x.run(k, 2), length);
    }

    private static void promise8Sync() {
        PageHold x = new PageHold(16, 16);
        DUE.is("nothing", x.sync(0), 0);
        for (int file : NO_FILES) {
            DUE.is("file " + file, x.sync(file), BAD);
        }
        x.write(0, 640, 1, 1);
        x.write(0, 64, 2, 1);
        x.write(11, 0, 3, 1);
        DUE.is("by rising pages", x.sync(0), 2);
        DUE.is("the lower page", x.page(0, 1, 1), 0);
        DUE.is("the higher page", x.page(0, 10, 1), 1);
        DUE.is("DIRTY no more", x.next(0, 0, 1), NONE);
        DUE.is("IN still", x.tree(0, 2), 2);
        DUE.is("on the disk", x.disk(0, 0), 2);
        DUE.is("the other file is DIRTY", x.told(2), 1);
        run(x, 0, 1, 0, 2);
        DUE.is("nothing more", x.sync(0), 0);
        DUE.is("the last file", x.sync(11), 1);
        DUE.is("WRITES", x.told(7), 3);
    }

    private static void promise8Errors() {
        PageHold x = new PageHold(32, 8);
        x.fill(0, 0, 576, 1);
        DUE.is("NO_ROOM", x.sync(0), NO_ROOM);
        DUE.is("those with a block are written", x.told(7), 8);
        DUE.is("it has none any more", x.tree(0, 5), 0);
        DUE.is("files with an ERROR", x.told(11), 0);
        x.punch(0, 0, 1);
        DUE.is("now there is one", x.sync(0), 1);
        x.fail(0, true);
        x.fill(0, 512, 64, 9);
        x.fill(0, 64, 64, 9);
        DUE.is("DEFECT", x.sync(0), DEFECT);
        DUE.is("the other one was written", x.next(0, 0, 1), 8);
        DUE.is("nothing on the disk", x.disk(0, 0), 1 + 3 * 512 & 255);
        x.fail(0, false);
        DUE.is("again", x.sync(0), 1);
        DUE.is("on the disk", x.disk(0, 0), 9);
        // An ERROR of earlier is told although all is written now.
        x.fail(0, true);
        x.fill(0, 512, 64, 3);
        x.syncAll();
        x.fail(0, false);
        DUE.is("of earlier", x.sync(0), DEFECT);
        DUE.is("all was written", x.told(2), 0);
        DUE.is("told", x.sync(0), 0);
    }

    private static void promise9SyncAll() {
        PageHold x = new PageHold(32, 32);
        DUE.is("nothing", x.syncAll(), 0);
        x.write(5, 0, 1, 1);
        x.sync(5);
        x.write(4, 0, 1, 1);
        x.sync(4);
        x.write(4, 0, 2, 1);
        x.write(5, 0, 2, 1);
        x.write(9, 64, 3, 1);
        x.write(9, 0, 3, 1);
        x.write(2, 128, 3, 1);
        DUE.is("all", x.syncAll(), 5);
        DUE.is("by files", x.page(2, 2, 1), 2);
        DUE.is("then pages", x.page(9, 0, 1), 3);
        DUE.is("then the last", x.page(9, 1, 1), 4);
        DUE.is("RUNS by rising blocks", x.told(10), 1);
        run(x, 0, 1, 0, 5);
        DUE.is("DIRTY", x.told(2), 0);
        DUE.is("IN", x.told(0), 5);
        DUE.is("none", x.syncAll(), 0);
        run(x, 0, 1, 0, 5);
    }

    private static void promise9Errors() {
        PageHold x = new PageHold(64, 8);
        x.fail(3, true);
        x.fill(0, 0, 256, 1);
        x.fill(1, 0, 256, 1);
        x.fill(2, 0, 64, 1);
        DUE.is("one fails, one gets no block", x.syncAll(), 7);
        DUE.is("DEFECT", x.tree(0, 5), DEFECT);
        DUE.is("none", x.tree(1, 5), 0);
        DUE.is("NO_ROOM", x.tree(2, 5), NO_ROOM);
        DUE.is("files with an ERROR", x.told(11), 2);
        run(x, 0, 1, 0, 3);
        run(x, 1, 1, 4, 4);
        DUE.is("again", x.syncAll(), 0);
        DUE.is("ERRORS stay", x.told(11), 2);
        DUE.is("DIRTY", x.told(2), 2);
        // NO_ROOM is found before DEFECT.
        x.sync(0);
        x.fill(0, 256, 64, 1);
        x.syncAll();
        DUE.is("those without a block come first", x.tree(0, 5), NO_ROOM);
    }

    private static void promise10Tick() {
        PageHold x = new PageHold(16, 16);
        DUE.is("-1", x.tick(-1), BAD);
        DUE.is("1001", x.tick(1001), BAD);
        DUE.is("least", x.tick(Integer.MIN_VALUE), BAD);
        DUE.is("most", x.tick(Integer.MAX_VALUE), BAD);
        DUE.is("TIME", x.told(9), 0);
        DUE.is("0", x.tick(0), 0);
        DUE.is("1000", x.tick(1000), 0);
        DUE.is("TIME", x.told(9), 1000);
        x.write(0, 0, 1, 1);
        DUE.is("since", x.page(0, 0, 2), 1000);
        DUE.is("4", x.tick(4), 0);
        x.write(0, 0, 2, 1);
        x.write(0, 64, 2, 1);
        DUE.is("5", x.tick(1), 1);
        DUE.is("on the disk", x.disk(0, 0), 2);
        DUE.is("the younger one is DIRTY", x.next(0, 0, 1), 1);
        DUE.is("no time, no writing", x.tick(0), 0);
        DUE.is("the younger one", x.tick(1000), 1);
        DUE.is("TIME", x.told(9), 2005);
    }

    private static void promise10FourASecond() {
        PageHold x = new PageHold(16, 16);
        x.write(3, 0, 1, 1);
        x.fill(0, 0, 320, 1);
        DUE.is("4 at most", x.tick(5), 4);
        DUE.is("the oldest by files, then pages", x.next(0, 0, 1), 4);
        run(x, 0, 1, 0, 4);
        DUE.is("the others", x.tick(1), 2);
        DUE.is("page 4 of file 0 came first", x.page(0, 4, 1), 4);
        x = new PageHold(16, 16);
        x.fill(0, 0, 448, 1);
        DUE.is("in two of the seconds", x.tick(6), 7);
    }

    private static void promise10ThoseThatFailCount() {
        PageHold x = new PageHold(16, 16);
        for (int block = 0; block < 3; block++) {
            x.fail(block, true);
        }
        x.fill(0, 0, 320, 1);
        DUE.is("three fail, one is written", x.tick(5), 1);
        DUE.is("and again", x.tick(1), 1);
        x.fail(3, true);
        x.fill(0, 192, 128, 1);
        DUE.is("four fail, none is come to", x.tick(100), 0);
        DUE.is("DIRTY", x.told(2), 5);
        DUE.is("ERROR", x.tree(0, 5), DEFECT);
    }

    private static void promise11Drop() {
        PageHold x = new PageHold(8, 16);
        DUE.is("nothing", x.drop(), 0);
        x.fill(1, 0, 128, 1);
        x.sync(1);
        x.truncate(0, 640);
        x.pin(0, 5, true);
        x.pin(0, 4, true);
        x.pin(0, 4, false);
        x.write(2, 0, 1, 1);
        DUE.is("neither DIRTY nor PINNED", x.drop(), 3);
        DUE.is("by files", x.page(0, 4, 3), 1);
        DUE.is("then pages", x.page(1, 0, 3), 2);
        DUE.is("then the last", x.page(1, 1, 3), 3);
        DUE.is("PINNED stays", x.page(0, 5, 0), 2);
        DUE.is("DIRTY stays", x.page(2, 0, 2), 0);
        DUE.is("EVICTED", x.told(5), 3);
        DUE.is("IN", x.told(0), 2);
        DUE.is("none", x.drop(), 0);
        DUE.is("the least free frame", x.pin(0, 0, true), false);
        DUE.is("is 0", x.page(0, 0, 0), 0);
        x.pin(0, 0, false);
        DUE.is("REFERENCED ones, too", x.read(0, 0, 1), 1);
        DUE.is("one", x.drop(), 1);
    }

    private static void promise12Crash() {
        PageHold x = new PageHold(8, 16);
        DUE.is("nothing", x.crash(), 0);
        x.fill(0, 0, 192, 1);
        x.sync(0);
        x.drop();
        x.read(0, 0, 1);
        x.fail(5, true);
        x.fill(1, 0, 128, 1);
        x.pin(1, 0, true);
        x.tick(3);
        DUE.is("DIRTY ones", x.crash(), 2);
        for (int what = 0; what <= 4; what++) {
            DUE.is("told(" + what + ")", x.told(what), 0);
        }
        DUE.is("no lists", x.listed(false, 0), NONE);
        DUE.is("no tree", x.tree(0, 0), 0);
        DUE.is("WINDOW", x.tree(0, 3), 1);
        DUE.is("NEXT", x.tree(0, 4), 0);
        DUE.is("HAND", x.hand(0), NONE);
        DUE.is("what was not written is lost", x.read(1, 0, 128), 128);
        DUE.is("it is 0", x.hand(1), 0);
        DUE.is("what was written is there", x.read(0, 0, 64), 64);
        DUE.is("it is", x.hand(1), 4);
        DUE.is("with frames from 0 on", x.page(1, 0, 0), 0);
        DUE.is("none DIRTY", x.crash(), 0);
    }

    private static void promise12WhatStays() {
        PageHold x = new PageHold(8, 8);
        x.fill(0, 0, 128, 1);
        x.sync(0);
        x.drop();
        x.read(0, 0, 128);
        x.fail(1, true);
        x.fill(0, 64, 64, 7);
        x.syncAll();
        x.tick(2);
        DUE.is("files with an ERROR", x.told(11), 1);
        x.fill(0, 128, 30, 7);
        DUE.is("two are DIRTY", x.crash(), 2);
        DUE.is("no ERROR", x.tree(0, 5), 0);
        DUE.is("files with an ERROR", x.told(11), 0);
        DUE.is("size", x.size(0), 158);
        DUE.is("block", x.page(0, 1, 1), 1);
        DUE.is("free blocks", x.told(8), 6);
        DUE.is("EVICTED", x.told(5), 2);
        DUE.is("READS", x.told(6), 2);
        DUE.is("WRITES", x.told(7), 2);
        DUE.is("TIME", x.told(9), 2);
        DUE.is("RUNS", x.told(10), 1);
        run(x, 0, 0, 0, 2);
        DUE.is("the block fails still", x.fail(1, true), false);
        DUE.is("the block has its bytes", x.disk(1, 0), 1 + 3 * 64 & 255);
        x.drop();
        x.read(0, 0, 1);
        x.drop();
        DUE.is("shadows go on from what was counted", x.page(0, 0, 3), 3);
    }

    private static void promise13Fail() {
        PageHold x = new PageHold(4, 8);
        DUE.is("does not", x.fail(0, false), false);
        DUE.is("does now", x.fail(0, true), true);
        DUE.is("does already", x.fail(0, true), false);
        DUE.is("does not any more", x.fail(0, false), true);
        DUE.is("the last", x.fail(7, true), true);
        for (int block : new int[] {-1, 8, 512, Integer.MIN_VALUE, Integer.MAX_VALUE}) {
            DUE.is("no block " + block, x.fail(block, true), false);
            DUE.is("no block " + block, x.fail(block, false), false);
        }
        x.fill(0, 0, 64, 1);
        x.sync(0);
        x.drop();
        x.fail(0, true);
        DUE.is("it is READ all the same", x.read(0, 1, 1), 1);
        DUE.is("with its bytes", x.hand(0), 4);
        x.write(0, 0, 99, 1);
        DUE.is("it is not written", x.sync(0), DEFECT);
        DUE.is("it has its bytes", x.disk(0, 0), 1);
        x.punch(0, 0, 1);
        x.fill(1, 0, 10, 1);
        DUE.is("a free one that fails is given", x.sync(1), DEFECT);
        DUE.is("it has the block", x.page(1, 0, 1), 0);
    }

    private static void promise14Pin() {
        PageHold x = new PageHold(5, 8);
        x.truncate(0, 640);
        DUE.is("was not", x.pin(0, 3, true), false);
        DUE.is("PINNED", x.page(0, 3, 6), 1);
        DUE.is("brought in", x.page(0, 3, 0), 0);
        DUE.is("not REFERENCED", x.page(0, 3, 5), 0);
        DUE.is("nothing ahead", x.told(0), 1);
        DUE.is("NEXT", x.tree(0, 4), 0);
        DUE.is("was", x.pin(0, 3, true), true);
        DUE.is("touched: REFERENCED", x.page(0, 3, 5), 1);
        DUE.is("was", x.pin(0, 3, true), true);
        DUE.is("touched: ACTIVE", x.page(0, 3, 7), 1);
        DUE.is("one more", x.pin(0, 0, true), false);
        DUE.is("PINNED ones", x.told(3), 2);
        DUE.is("half are", x.pin(0, 1, true), false);
        DUE.is("not PINNED", x.page(0, 1, 6), 0);
        DUE.is("nor touched", x.page(0, 1, 0), NONE);
        DUE.is("a PINNED one can be, again", x.pin(0, 3, true), true);
        DUE.is("no more", x.pin(0, 3, false), true);
        DUE.is("not PINNED", x.page(0, 3, 6), 0);
        DUE.is("IN still", x.page(0, 3, 0), 0);
        DUE.is("was not", x.pin(0, 3, false), false);
        DUE.is("there is room again", x.pin(0, 1, true), false);
        DUE.is("PINNED", x.page(0, 1, 6), 1);
        DUE.is("a page that is OUT", x.pin(0, 9, false), false);
        DUE.is("is not touched", x.page(0, 9, 0), NONE);
        x.pin(0, 1, false);
        DUE.is("not touched when it is not PINNED any more", x.page(0, 1, 5), 0);
        x.drop();
        DUE.is("a PINNED one is not dropped", x.told(0), 1);
    }

    private static void promise14NothingIsDone() {
        PageHold x = new PageHold(4, 8);
        x.truncate(0, 65);
        for (int file : NO_FILES) {
            DUE.is("file " + file, x.pin(file, 0, true), false);
            DUE.is("file " + file, x.pin(file, 0, false), false);
        }
        for (int page : new int[] {-1, 256, Integer.MIN_VALUE, Integer.MAX_VALUE}) {
            DUE.is("page " + page, x.pin(0, page, true), false);
            DUE.is("page " + page, x.pin(0, page, false), false);
        }
        DUE.is("no byte of the file", x.pin(0, 2, true), false);
        DUE.is("no byte of another file", x.pin(1, 0, true), false);
        DUE.is("nothing is IN", x.told(0), 0);
        DUE.is("one byte of the file", x.pin(0, 1, true), false);
        DUE.is("PINNED", x.told(3), 1);
        x.truncate(0, 64);
        DUE.is("PINNED no more with its page", x.told(3), 0);
    }

    private static void promise14NoFrame() {
        PageHold x = Scene.withoutFrames(4);
        x.truncate(1, 64);
        DUE.is("no frame", x.pin(1, 0, true), false);
        DUE.is("not PINNED", x.told(3), 0);
        DUE.is("OUT", x.page(1, 0, 0), NONE);
        DUE.is("one that is IN can be", x.pin(0, 0, true), false);
        DUE.is("PINNED", x.told(3), 1);
    }
}
