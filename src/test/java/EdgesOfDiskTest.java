/** Promises 8 to 14: their sentences that name a boundary case, each with a test of its own. */
public final class EdgesOfDiskTest {
    private static final int NONE = PageHold.NONE;
    private static final int BAD = PageHold.BAD;
    private static final int NO_ROOM = PageHold.NO_ROOM;
    private static final int DEFECT = PageHold.DEFECT;
    private static final int LEAST = Integer.MIN_VALUE;
    private static final int MOST = Integer.MAX_VALUE;
    private static final Due DUE = new Due("EdgesOfDiskTest");

    public static void main(String[] args) {
        sync();
        syncAll();
        tick();
        drop();
        crash();
        fail();
        pin();
        DUE.end();
    }

    private static void sync() {
        syncNothing();
        syncByRisingPages();
        syncDefect();
        syncNoRoom();
        syncErrorOfEarlier();
        syncWrongNumbers();
    }

    private static void syncAll() {
        syncAllNothing();
        syncAllBlocksByFilesThenPages();
        syncAllByRisingBlocks();
        syncAllThoseThatGetNone();
        syncAllErrorsStay();
    }

    private static void tick() {
        tickSeconds();
        tickHowManyInThem();
        tickTheOldest();
    }

    private static void drop() {
        dropNothing();
        dropNeither();
        dropByFilesThenPages();
    }

    private static void crash() {
        crashNothing();
        crashEverything();
        crashHowManyWereLost();
        crashAsAtFirst();
        crashWhatStays();
        crashBlockNeverWritten();
    }

    private static void fail() {
        failOtherwise();
        failNoBlock();
    }

    private static void pin() {
        pinWhetherItWas();
        pinNoPage();
        pinWithoutAByte();
        for (int frames : new int[] {4, 5, 7, 16, 63, 64}) {
            pinHalfTheFrames(frames);
        }
        pinNotTouched();
        pinNoFrame();
    }

    // ---- sync

    private static void syncNothing() {
        DUE.about("All DIRTY pages of a file are written, by rising pages: how many were");
        PageHold x = new PageHold(8, 8);
        DUE.is("a file without bytes", x.sync(0), 0);
        x.truncate(0, 320);
        x.read(0, 0, 320);
        DUE.is("none is DIRTY", x.sync(0), 0);
        x.write(1, 0, 1, 1);
        DUE.is("one of another file", x.sync(0), 0);
        DUE.is("is DIRTY still", x.told(2), 1);
        DUE.is("one", x.sync(1), 1);
        DUE.is("none any more", x.sync(1), 0);
        DUE.is("it is IN still", x.page(1, 0, 0) >= 0, true);
        DUE.is("not touched", x.page(1, 0, 5), 0);
    }

    private static void syncByRisingPages() {
        DUE.about("by rising pages");
        PageHold x = new PageHold(16, 16);
        x.write(0, 16383, 1, 1);
        x.tick(1);
        x.write(0, 640, 1, 1);
        x.tick(1);
        x.write(0, 0, 1, 1);
        DUE.is("the oldest is the last page", x.sync(0), 3);
        DUE.is("page 0", x.page(0, 0, 1), 0);
        DUE.is("page 10", x.page(0, 10, 1), 1);
        DUE.is("page 255", x.page(0, 255, 1), 2);
        x.punch(0, 0, 1);
        x.punch(0, 10, 1);
        x.write(0, 640, 1, 1);
        x.sync(0);
        x.write(0, 0, 1, 1);
        x.sync(0);
        x.write(0, 640, 1, 1);
        x.write(0, 0, 1, 1);
        x.sync(0);
        DUE.runs(x, "page 0 has block 1, page 10 block 0", 1, 1, 1, 1, 0, 1);
    }

    private static void syncDefect() {
        DUE.about("or, if the file has an ERROR then, that (NO_ROOM, DEFECT)");
        PageHold x = new PageHold(16, 8);
        x.fail(1, true);
        x.fill(0, 0, 192, 1);
        DUE.is("one of three fails", x.sync(0), DEFECT);
        DUE.is("the others were written", x.told(7), 2);
        DUE.about("and it has none any more");
        DUE.is("tree", x.tree(0, 5), 0);
        DUE.is("told", x.told(11), 0);
        DUE.is("it fails again", x.sync(0), DEFECT);
        x.fail(1, false);
        DUE.is("it is written", x.sync(0), 1);
        DUE.is("nothing is left", x.sync(0), 0);
    }

    private static void syncNoRoom() {
        DUE.about("or, if the file has an ERROR then, that (NO_ROOM, DEFECT)");
        PageHold x = new PageHold(32, 8);
        x.fill(0, 0, 512, 1);
        DUE.is("all blocks", x.sync(0), 8);
        x.fill(0, 512, 64, 1);
        DUE.is("one page more", x.sync(0), NO_ROOM);
        DUE.is("it has none any more", x.tree(0, 5), 0);
        DUE.is("again", x.sync(0), NO_ROOM);
        x.punch(0, 0, 1);
        DUE.is("there is one", x.sync(0), 1);
    }

    private static void syncErrorOfEarlier() {
        DUE.about("or, if the file has an ERROR then, that");
        PageHold x = new PageHold(16, 8);
        x.fail(0, true);
        x.fill(0, 0, 64, 1);
        x.fill(1, 0, 64, 1);
        x.tick(5);
        DUE.is("ERROR by age", x.tree(0, 5), DEFECT);
        x.fail(0, false);
        DUE.is("of another file", x.sync(1), 0);
        DUE.is("it stays", x.tree(0, 5), DEFECT);
        DUE.is("told, though it is written now", x.sync(0), DEFECT);
        DUE.is("it is", x.disk(0, 0), 1);
        DUE.is("not again", x.sync(0), 0);
        x.fail(0, true);
        x.fill(0, 0, 64, 1);
        x.tick(5);
        x.punch(0, 0, 1);
        DUE.is("told, though nothing is DIRTY", x.sync(0), DEFECT);
        DUE.is("not again", x.sync(0), 0);
    }

    private static void syncWrongNumbers() {
        DUE.about("and it has none any more. BAD.");
        PageHold x = new PageHold(16, 8);
        x.write(11, 0, 1, 1);
        for (int file : new int[] {-1, 12, LEAST, MOST}) {
            DUE.is("file " + file, x.sync(file), BAD);
        }
        DUE.is("DIRTY still", x.told(2), 1);
        DUE.is("file 11", x.sync(11), 1);
        DUE.is("file 0", x.sync(0), 0);
    }

    // ---- syncAll

    private static void syncAllNothing() {
        DUE.about("All DIRTY pages are written");
        PageHold x = new PageHold(8, 8);
        DUE.is("nothing is IN", x.syncAll(), 0);
        x.truncate(0, 320);
        x.read(0, 0, 320);
        DUE.is("nothing is DIRTY", x.syncAll(), 0);
        DUE.is("no block was given", x.told(8), 8);
        x.write(0, 0, 1, 1);
        x.write(11, 16383, 1, 1);
        DUE.is("the first and the last page of all", x.syncAll(), 2);
        DUE.is("DIRTY", x.told(2), 0);
    }

    private static void syncAllBlocksByFilesThenPages() {
        DUE.about("first those without a block get one, by files, then pages");
        PageHold x = new PageHold(16, 16);
        x.write(11, 0, 1, 1);
        x.tick(1);
        x.write(3, 16383, 1, 1);
        x.tick(1);
        x.write(3, 0, 1, 1);
        x.write(0, 640, 1, 1);
        DUE.is("all", x.syncAll(), 4);
        DUE.is("0, 10", x.page(0, 10, 1), 0);
        DUE.is("3, 0", x.page(3, 0, 1), 1);
        DUE.is("3, 255", x.page(3, 255, 1), 2);
        DUE.is("11, 0", x.page(11, 0, 1), 3);
        DUE.runs(x, "all", 1, 0, 4);
    }

    private static void syncAllByRisingBlocks() {
        DUE.about("then all that have one, by rising blocks: how many were");
        PageHold x = new PageHold(32, 8);
        x.fill(5, 0, 192, 1);
        x.sync(5);
        x.fill(0, 0, 192, 1);
        x.sync(0);
        x.punch(5, 1, 1);
        x.fill(5, 128, 64, 2);
        x.fill(5, 0, 64, 2);
        x.fill(0, 0, 192, 2);
        x.write(9, 0, 1, 1);
        DUE.is("0 of file 5, 1 of file 9, 2 of 5, 3 to 5 of 0", x.syncAll(), 6);
        DUE.is("the free one", x.page(9, 0, 1), 1);
        DUE.runs(x, "by blocks", 1, 0, 6);
        x.fail(3, true);
        x.fill(0, 0, 192, 3);
        DUE.is("one fails", x.syncAll(), 2);
        DUE.runs(x, "the others", 1, 4, 2);
        PageHold y = new PageHold(4, 512);
        for (int i = 0; i < 512; i += 16) {
            y.fill(i / 256, 64 * (i % 256), 1024, 1);
        }
        DUE.is("the last ones are DIRTY", y.told(2) > 0, true);
        int last = y.told(2);
        DUE.is("they are written", y.syncAll(), last);
        DUE.is("the last of 512 blocks", y.page(1, 255, 1), 511);
        DUE.is("none is free", y.told(8), 0);
    }

    private static void syncAllThoseThatGetNone() {
        DUE.about("(those that get none fail)");
        PageHold x = new PageHold(64, 8);
        x.fill(4, 0, 64, 1);
        x.tick(1);
        x.fill(3, 0, 512, 1);
        DUE.is("the last by files", x.syncAll(), 8);
        DUE.is("DIRTY", x.next(4, 0, 1), 0);
        DUE.is("it has none", x.page(4, 0, 1), NONE);
        DUE.is("ERROR", x.tree(4, 5), NO_ROOM);
        DUE.is("none of the other file", x.tree(3, 5), 0);
        x.fail(0, true);
        x.fill(3, 0, 64, 2);
        x.fill(3, 512, 64, 1);
        DUE.is("none gets one, one fails", x.syncAll(), 0);
        DUE.is("which was found first", x.tree(3, 5), NO_ROOM);
    }

    private static void syncAllErrorsStay() {
        DUE.about("how many were. (ERRORS stay.)");
        PageHold x = new PageHold(16, 8);
        x.fail(1, true);
        x.fill(0, 0, 128, 1);
        DUE.is("how many, though there is an ERROR", x.syncAll(), 1);
        DUE.is("it stays", x.tree(0, 5), DEFECT);
        DUE.is("none", x.syncAll(), 0);
        DUE.is("it stays", x.told(11), 1);
        x.fail(1, false);
        DUE.is("one", x.syncAll(), 1);
        DUE.is("it stays", x.tree(0, 5), DEFECT);
        DUE.is("till it is told", x.sync(0), DEFECT);
    }

    // ---- tick

    private static void tickSeconds() {
        DUE.about("So many seconds pass (0 .. 1000)");
        PageHold x = new PageHold(8, 8);
        for (int seconds : new int[] {-1, 1001, LEAST, MOST}) {
            DUE.is("seconds " + seconds, x.tick(seconds), BAD);
            DUE.is("TIME", x.told(9), 0);
        }
        DUE.is("0", x.tick(0), 0);
        DUE.is("TIME", x.told(9), 0);
        DUE.is("1", x.tick(1), 0);
        DUE.is("TIME", x.told(9), 1);
        DUE.is("1000", x.tick(1000), 0);
        DUE.is("TIME", x.told(9), 1001);
        for (int i = 0; i < 400; i++) {
            x.tick(1000);
        }
        DUE.is("TIME", x.told(9), 401001);
        x.write(0, 0, 1, 1);
        DUE.is("since", x.page(0, 0, 2), 401001);
    }

    private static void tickHowManyInThem() {
        DUE.about("how many pages were written in them");
        PageHold x = new PageHold(32, 32);
        x.fill(0, 0, 896, 1);
        DUE.is("0", x.tick(0), 0);
        DUE.is("5 of them", x.tick(5), 4);
        DUE.is("two more", x.tick(2), 8);
        DUE.is("the last", x.tick(1), 2);
        DUE.is("none", x.tick(1), 0);
        DUE.is("WRITES", x.told(7), 14);
        x.fail(0, true);
        x.fill(0, 0, 128, 1);
        DUE.is("those that fail are not written", x.tick(1000), 1);
        x = new PageHold(32, 32);
        x.fill(0, 0, 896, 1);
        DUE.is("all in one call", x.tick(1000), 14);
        DUE.runs(x, "one RUN", 1, 0, 14);
    }

    private static void tickTheOldest() {
        DUE.about("OLDEST: by since when, then by files, then by pages");
        PageHold x = new PageHold(32, 32);
        x.write(11, 16383, 1, 1);
        x.tick(1);
        x.write(1, 64, 1, 1);
        x.write(1, 0, 1, 1);
        x.write(0, 16383, 1, 1);
        x.tick(1);
        x.write(0, 0, 1, 1);
        DUE.is("one is old enough", x.tick(3), 1);
        DUE.is("since 0", x.page(11, 255, 1), 0);
        DUE.is("three are", x.tick(1), 3);
        DUE.is("since 1, file 0", x.page(0, 255, 1), 1);
        DUE.is("since 1, file 1, page 0", x.page(1, 0, 1), 2);
        DUE.is("since 1, file 1, page 1", x.page(1, 1, 1), 3);
        DUE.is("the youngest", x.tick(1), 1);
        DUE.is("since 2", x.page(0, 0, 1), 4);
    }

    // ---- drop

    private static void dropNothing() {
        DUE.about("Pages that are neither DIRTY nor PINNED are EVICTED");
        PageHold x = new PageHold(4, 8);
        DUE.is("nothing is IN", x.drop(), 0);
        DUE.is("EVICTED", x.told(5), 0);
        x.fill(0, 0, 64, 1);
        x.truncate(1, 128);
        x.pin(1, 0, true);
        x.pin(1, 1, true);
        x.fill(1, 0, 1, 1);
        DUE.is("DIRTY, PINNED, and both", x.drop(), 0);
        DUE.told(x, "all are IN", 3, 0, 2, 2, 0, 0);
        DUE.is("nothing is written", x.told(7), 0);
    }

    private static void dropNeither() {
        DUE.about("Pages that are neither DIRTY nor PINNED are EVICTED");
        PageHold x = Scene.withPages(4, 8, 0, 1);
        Scene.makeActive(x, 2, 3);
        Scene.bring(x, 1, 3);
        DUE.is("ACTIVE or not, REFERENCED or not", x.drop(), 4);
        DUE.told(x, "none is IN", 0, 0, 0, 0, 4, 4);
        DUE.is("none", x.drop(), 0);
        x.write(0, 0, 1, 1);
        x.pin(0, 1, true);
        x.pin(0, 2, true);
        x.sync(0);
        x.pin(0, 2, false);
        DUE.is("DIRTY no more, PINNED no more", x.drop(), 2);
        DUE.is("the PINNED one is IN", x.next(0, 0, 0), 1);
        DUE.is("it alone", x.told(0), 1);
    }

    private static void dropByFilesThenPages() {
        DUE.about("by files, then pages: how many");
        PageHold x = new PageHold(8, 8);
        x.write(11, 16383, 1, 1);
        x.write(2, 640, 1, 1);
        x.write(2, 0, 1, 1);
        x.write(0, 16383, 1, 1);
        x.syncAll();
        DUE.is("all", x.drop(), 4);
        DUE.is("0, 255", x.page(0, 255, 3), 1);
        DUE.is("2, 0", x.page(2, 0, 3), 2);
        DUE.is("2, 10", x.page(2, 10, 3), 3);
        DUE.is("11, 255", x.page(11, 255, 3), 4);
    }

    // ---- crash

    private static void crashNothing() {
        DUE.about("how many DIRTY pages were lost");
        PageHold x = new PageHold(4, 8);
        DUE.is("nothing is IN", x.crash(), 0);
        x.truncate(0, 640);
        x.pin(0, 0, true);
        x.pin(0, 1, true);
        DUE.is("PINNED ones", x.crash(), 0);
        DUE.is("IN", x.told(0), 0);
        DUE.is("PINNED", x.told(3), 0);
        DUE.is("there is room for pins", x.pin(0, 2, true), false);
        DUE.is("PINNED", x.told(3), 1);
        DUE.is("in the least frame", x.page(0, 2, 0), 0);
    }

    private static void crashEverything() {
        DUE.about("All that is IN is lost (OUT without shadows); shadows go, too");
        PageHold x = Scene.withPages(4, 8, 8, 9);
        x.drop();
        x.fill(0, 0, 128, 1);
        Scene.bring(x, 2, 3, 2, 3, 2, 3);
        DUE.told(x, "before", 4, 2, 2, 0, 2, 2);
        DUE.is("two were DIRTY", x.crash(), 2);
        DUE.told(x, "behind", 0, 0, 0, 0, 0, 2, 0, 0, 8);
        DUE.lists(x, "behind", "", "");
        DUE.is("no tree", x.tree(0, 0) + x.tree(0, 1) + x.tree(0, 2), 0);
        for (int page : new int[] {0, 2, 8}) {
            DUE.page(x, 0, page, NONE, NONE, NONE, NONE, NONE, 0, 0, 0);
        }
    }

    private static void crashHowManyWereLost() {
        DUE.about("how many DIRTY pages were lost");
        PageHold x = new PageHold(8, 8);
        x.fill(0, 0, 256, 1);
        x.pin(0, 0, true);
        DUE.is("DIRTY all, one PINNED", x.crash(), 4);
        DUE.is("none any more", x.crash(), 0);
        x.read(0, 0, 256);
        DUE.is("what was lost", x.hand(0), 0);
        x.fill(0, 0, 256, 1);
        x.sync(0);
        x.write(0, 0, 200, 1);
        DUE.is("one of four", x.crash(), 1);
        x.read(0, 0, 256);
        DUE.is("as the disk has it", x.hand(0), 1);
    }

    private static void crashAsAtFirst() {
        DUE.about("WINDOWS, NEXT, ERRORS, HAND are as at first");
        PageHold x = new PageHold(8, 8);
        x.fail(0, true);
        for (int file = 0; file < 12; file += 11) {
            x.truncate(file, 640);
            x.read(file, 0, 129);
            x.write(file, 0, 1, 1);
        }
        x.syncAll();
        DUE.is("an ERROR", x.told(11), 1);
        x.fail(0, false);
        x.crash();
        for (int file = 0; file < 12; file += 11) {
            DUE.is("WINDOW", x.tree(file, 3), 1);
            DUE.is("NEXT", x.tree(file, 4), 0);
            DUE.is("ERROR", x.tree(file, 5), 0);
        }
        DUE.is("ERRORS", x.told(11), 0);
        DUE.is("HAND", x.hand(0), NONE);
        DUE.is("no ERROR to be told", x.sync(0), 0);
        x.read(11, 0, 1);
        DUE.is("page 0 goes on: WINDOW", x.tree(11, 3), 2);
        DUE.is("page 0 goes on: NEXT", x.tree(11, 4), 2);
    }

    private static void crashWhatStays() {
        DUE.about("sizes and blocks (what they have, which fail), the TIME, the RECORD");
        PageHold x = new PageHold(8, 8);
        x.tick(9);
        x.fill(0, 0, 130, 1);
        x.sync(0);
        x.drop();
        x.read(0, 0, 130);
        x.fail(2, true);
        x.crash();
        DUE.told(x, "what was counted stays", 0, 0, 0, 0, 0, 3, 3, 3, 5, 9, 1, 0);
        DUE.is("size", x.size(0), 130);
        DUE.is("block", x.page(0, 2, 1), 2);
        DUE.is("what it has", x.disk(2, 1), 1 + 3 * 129 & 255);
        DUE.is("which fails", x.fail(2, false), true);
        DUE.runs(x, "the RECORD", 0, 0, 3);
    }

    private static void crashBlockNeverWritten() {
        DUE.about("sizes and blocks (what they have, which fail)");
        PageHold x = new PageHold(8, 8);
        x.fill(0, 0, 64, 1);
        x.sync(0);
        x.punch(0, 0, 1);
        x.fail(0, true);
        x.fill(1, 0, 64, 200);
        DUE.is("it gets the block, which fails", x.sync(1), DEFECT);
        DUE.is("lost", x.crash(), 1);
        DUE.is("it has the block", x.page(1, 0, 1), 0);
        x.read(1, 0, 64);
        DUE.is("with what the block has", x.hand(1), 4);
    }

    // ---- fail

    private static void failOtherwise() {
        DUE.about("whether it was otherwise before");
        PageHold x = new PageHold(4, 512);
        for (int block : new int[] {0, 1, 511}) {
            DUE.is("does not", x.fail(block, false), false);
            DUE.is("fails from now on", x.fail(block, true), true);
            DUE.is("fails already", x.fail(block, true), false);
            DUE.is("does not any more", x.fail(block, false), true);
            DUE.is("does not", x.fail(block, false), false);
        }
        x.fail(1, true);
        x.fill(0, 0, 192, 1);
        DUE.is("that block alone", x.sync(0), DEFECT);
        DUE.is("the others are written", x.next(0, 0, 1), 1);
        DUE.is("the others are written", x.next(0, 2, 1), NONE);
    }

    private static void failNoBlock() {
        DUE.about("False also for no block");
        for (int blocks : new int[] {8, 9, 128, 512}) {
            PageHold x = new PageHold(4, blocks);
            for (int block : new int[] {-1, blocks, LEAST, MOST}) {
                DUE.is("fails, " + block, x.fail(block, true), false);
                DUE.is("does not, " + block, x.fail(block, false), false);
            }
            DUE.is("the last", x.fail(blocks - 1, true), true);
        }
    }

    // ---- pin

    private static void pinWhetherItWas() {
        DUE.about("whether it was PINNED");
        PageHold x = Scene.withPages(4, 8);
        DUE.is("OUT, to PINNED", x.pin(0, 5, true), false);
        DUE.is("PINNED", x.page(0, 5, 6), 1);
        DUE.is("PINNED, to PINNED", x.pin(0, 5, true), true);
        DUE.is("counted once", x.told(3), 1);
        DUE.is("PINNED, to not", x.pin(0, 5, false), true);
        DUE.is("none is", x.told(3), 0);
        DUE.is("IN, to not", x.pin(0, 5, false), false);
        DUE.is("IN, to PINNED", x.pin(0, 5, true), false);
        DUE.is("OUT, to not", x.pin(0, 6, false), false);
        DUE.is("the last page", x.pin(0, 255, true), false);
        DUE.is("PINNED", x.told(3), 2);
    }

    private static void pinNoPage() {
        DUE.about("Nothing is done, and false, for what is no page of a file");
        PageHold x = Scene.withPages(4, 8);
        x.truncate(11, 16384);
        for (int file : new int[] {-1, 12, LEAST, MOST}) {
            DUE.is("file " + file, x.pin(file, 0, true), false);
            DUE.is("file " + file, x.pin(file, 0, false), false);
        }
        for (int page : new int[] {-1, 256, LEAST, MOST}) {
            DUE.is("page " + page, x.pin(0, page, true), false);
            DUE.is("page " + page, x.pin(11, page, true), false);
            DUE.is("page " + page, x.pin(0, page, false), false);
        }
        DUE.told(x, "nothing is done", 0, 0, 0, 0);
    }

    private static void pinWithoutAByte() {
        DUE.about("to pin one that has no byte of the file");
        PageHold x = new PageHold(8, 8);
        DUE.is("a file without bytes", x.pin(0, 0, true), false);
        x.truncate(0, 1);
        DUE.is("page 1 of 1 byte", x.pin(0, 1, true), false);
        x.truncate(0, 64);
        DUE.is("page 1 of 64 bytes", x.pin(0, 1, true), false);
        DUE.is("nothing is done", x.told(0), 0);
        x.truncate(0, 65);
        DUE.is("page 1 of 65 bytes", x.pin(0, 1, true), false);
        DUE.is("PINNED", x.page(0, 1, 6), 1);
        DUE.is("page 2 of 65 bytes", x.pin(0, 2, true), false);
        DUE.is("one is IN", x.told(0), 1);
        x.truncate(0, 16383);
        DUE.is("page 255", x.pin(0, 255, true), false);
        DUE.is("PINNED", x.page(0, 255, 6), 1);
    }

    private static void pinHalfTheFrames(int frames) {
        DUE.about("or one that is not PINNED when half the frames (cut off) are");
        PageHold x = Scene.withPages(frames, 8);
        int half = frames / 2;
        for (int page = 0; page < half; page++) {
            x.pin(0, page, true);
        }
        DUE.is("half of " + frames, x.told(3), half);
        DUE.is("one that is OUT", x.pin(0, 101, true), false);
        DUE.is("is not PINNED", x.told(3), half);
        DUE.is("nor IN", x.page(0, 101, 0), NONE);
        x.truncate(1, 64);
        DUE.is("one of another file", x.pin(1, 0, true), false);
        DUE.is("is not IN", x.page(1, 0, 0), NONE);
        x.pin(0, half - 1, true);
        DUE.is("one that is PINNED is touched", x.page(0, half - 1, 5), 1);
        DUE.is("is PINNED", x.pin(0, half - 1, true), true);
        x.pin(0, 0, false);
        x.pin(0, 101, true);
        DUE.is("one less", x.page(0, 101, 6), 1);
        x.read(0, 6400, 1);
        int referenced = x.page(0, 100, 5);
        DUE.is("one that is IN", x.pin(0, 100, true), false);
        DUE.is("is not PINNED", x.page(0, 100, 6), 0);
        DUE.is("nor touched", x.page(0, 100, 5), referenced);
    }

    private static void pinNotTouched() {
        DUE.about("or is not PINNED any more (then it is not touched)");
        PageHold x = Scene.withPages(4, 8);
        x.pin(0, 0, true);
        x.pin(0, 0, false);
        DUE.is("IN and PINNED", x.page(0, 0, 5), 0);
        x.pin(0, 0, false);
        DUE.is("IN and not PINNED", x.page(0, 0, 5), 0);
        x.pin(0, 1, false);
        DUE.is("OUT", x.page(0, 1, 0), NONE);
        x.pin(0, 0, true);
        x.pin(0, 0, false);
        DUE.is("touched when it is PINNED: REFERENCED", x.page(0, 0, 5), 1);
        DUE.is("INACTIVE still", x.page(0, 0, 7), 0);
        DUE.about("A page is TOUCHED (nothing comes ahead), and PINNED");
        DUE.is("nothing ahead", x.told(0), 1);
        DUE.is("WINDOW", x.tree(0, 3), 1);
        DUE.is("NEXT", x.tree(0, 4), 0);
        x.truncate(0, 64);
        DUE.is("one without a byte any more", x.pin(0, 1, false), false);
    }

    private static void pinNoFrame() {
        DUE.about("when there is no frame, it is not PINNED, and false");
        PageHold x = Scene.withoutFrames(5);
        Scene.bring(x, 0, 0);
        x.truncate(1, 64);
        DUE.is("no frame", x.pin(1, 0, true), false);
        DUE.page(x, 1, 0, NONE, NONE, NONE, NONE, NONE, 0, 0, 0);
        DUE.is("none is PINNED", x.told(3), 0);
        // Ten looks at the four INACTIVE ones, which all fail.
        DUE.lists(x, "what was done before stays", "0", "2 1 4 3");
        DUE.is("one that is IN needs none", x.pin(0, 4, true), false);
        DUE.is("it is PINNED", x.told(3), 1);
        x.punch(0, 2, 1);
        DUE.is("there is one", x.pin(1, 0, true), false);
        DUE.is("it is PINNED", x.page(1, 0, 6), 1);
    }
}
