/**
 * The last two sections of "Terms", frames taken back and what is DIRTY: their sentences that name a
 * boundary case, each with a test of its own. The answers are worked out by hand from the
 * document's words.
 */
public final class EdgesOfFramesTest {
    private static final int NONE = PageHold.NONE;
    private static final int BAD = PageHold.BAD;
    private static final int NO_FRAME = PageHold.NO_FRAME;
    private static final int NO_ROOM = PageHold.NO_ROOM;
    private static final int DEFECT = PageHold.DEFECT;
    private static final Due DUE = new Due("EdgesOfFramesTest");

    public static void main(String[] args) {
        takenBack();
        written();
        dirty();
        record();
        DUE.end();
    }

    private static void takenBack() {
        moreThanInactive();
        allActiveAndReferenced();
        pinnedOnesAreEvenedOut();
        int[][] framesAndActive = {{4, 1}, {5, 2}, {7, 2}, {9, 4}, {16, 3}, {64, 5}};
        for (int[] numbers : framesAndActive) {
            twiceAsOftenAsFrames(numbers[0], numbers[1]);
        }
        everyLookCounts();
        writtenAndThenEvicted();
        behindSoManyLooks();
        withoutInactiveOnes();
        theFrontOfActive();
        noFrameForPinnedAndFailing();
    }

    private static void written() {
        withoutAFreeBlock();
        withoutAFreeBlockForAFrame();
        aBlockThatFails();
        aFreeBlockThatFailsIsGiven();
        aBlockThatFailsIsRead();
        behindTheSize();
        theFirstErrorStays();
        anErrorIsOfOneFile();
    }

    private static void dirty() {
        alsoWithWhatItHad();
        for (int frames = 4; frames <= 64; frames++) {
            halfAndQuarterCutOff(frames);
        }
        onceBehindAFill();
        thoseThatFailAreLeftOut(1, 3, 2);
        thoseThatFailAreLeftOut(2, 3, 2);
        thoseThatFailAreLeftOut(3, 2, 3);
        thoseThatFailAreLeftOut(5, 0, 5);
        theYoungestOfAllFrames();
        thatWroteSomething();
        notBehindOtherCalls();
        cutShortWroteSomething();
        dirtyForFive();
        fourASecond();
    }

    private static void record() {
        oneBehindTheOtherUpward();
        theSameBlockAgain();
        ofTheSameKind();
        theLatestCallThatDidAny();
        eachCallThatDidAny();
    }

    // ---- frames taken back

    private static void moreThanInactive() {
        DUE.about("as long as ACTIVE has more pages than INACTIVE, its last");
        PageHold x = Scene.withPages(4, 8, 2, 3);
        Scene.makeActive(x, 0, 1);
        DUE.lists(x, "as many", "1 0", "3 2");
        Scene.bring(x, 4);
        DUE.lists(x, "as many: none goes over", "1 0", "4 3");
        x = Scene.withPages(5, 8, 3, 4);
        Scene.makeActive(x, 0, 1, 2);
        Scene.bring(x, 5);
        DUE.lists(x, "one more: its last goes over", "2 1", "5 0 4");
        x = Scene.withPages(5, 8, 3, 4);
        Scene.makeActive(x, 0, 1, 2);
        Scene.bring(x, 0);
        Scene.bring(x, 5);
        DUE.lists(x, "the last is REFERENCED: the one ahead goes over", "0 2", "5 1 4");
        DUE.is("it is so no more", x.page(0, 0, 5), 0);
        x = Scene.withPages(6, 8, 5);
        Scene.makeActive(x, 0, 1, 2, 3, 4);
        Scene.bring(x, 6);
        DUE.lists(x, "four more: two go over", "4 3 2", "6 1 0");
        x = Scene.withPages(4, 8);
        Scene.makeActive(x, 0, 1, 2, 3);
        Scene.bring(x, 6);
        DUE.lists(x, "all are ACTIVE: two go over, one goes", "3 2", "6 1");
    }

    private static void allActiveAndReferenced() {
        DUE.about("if it is REFERENCED, it is so no more, and goes to the front of ACTIVE");
        PageHold x = Scene.withPages(4, 8);
        Scene.makeActive(x, 0, 1, 2, 3);
        Scene.bring(x, 0, 1, 2, 3);
        Scene.bring(x, 4);
        DUE.lists(x, "each is passed over once", "3 2", "4 1");
        DUE.is("0 went", x.page(0, 0, 3), 1);
        DUE.is("none is REFERENCED", x.next(0, 0, 2), NONE);
    }

    private static void pinnedOnesAreEvenedOut() {
        DUE.about("else to the front of INACTIVE");
        PageHold x = Scene.withPages(4, 8);
        for (int i = 0; i < 3; i++) {
            x.pin(0, 0, true);
        }
        Scene.makeActive(x, 1, 2);
        Scene.bring(x, 3);
        DUE.lists(x, "before", "2 1 0", "3");
        Scene.bring(x, 4);
        DUE.lists(x, "a PINNED one, too", "2 1", "4 0");
        DUE.is("PINNED still", x.page(0, 0, 6), 1);
    }

    /** All are DIRTY and fail: so many looks turn INACTIVE that its order tells their number. */
    private static void twiceAsOftenAsFrames(int frames, int active) {
        DUE.about("at most twice as often as there are frames");
        PageHold x = Scene.withoutFrames(frames);
        for (int page = 0; page < active; page++) {
            Scene.bring(x, page, page);
        }
        x.truncate(1, 64);
        DUE.is("frames " + frames, x.read(1, 0, 1), NO_FRAME);
        int length = frames - active;
        int turned = 2 * frames % length;
        for (int k = 0; k < length; k++) {
            int place = (k + length - turned) % length;
            String call = "frames " + frames + ": listed(false, " + k + ")";
            DUE.is(call, x.listed(false, k), frames - 1 - place);
        }
        DUE.is("no more INACTIVE", x.listed(false, length), NONE);
        DUE.is("the end of ACTIVE", x.listed(true, active - 1), 0);
    }

    private static void everyLookCounts() {
        DUE.about("at most twice as often as there are frames: if it is PINNED, ..");
        PageHold x = Scene.withoutFrames(5);
        Scene.bring(x, 0);
        x.pin(0, 1, true);
        x.truncate(1, 64);
        DUE.is("no frame", x.read(1, 0, 1), NO_FRAME);
        // One look at 0, which is REFERENCED; nine at 1 (PINNED), 2, 3, 4 (they fail) in turn.
        DUE.lists(x, "ten looks", "0", "1 4 3 2");
        DUE.is("REFERENCED no more", x.page(0, 0, 5), 0);
        DUE.is("PINNED comes before REFERENCED", x.page(0, 1, 5), 1);
    }

    private static void writtenAndThenEvicted() {
        DUE.about("what is left is EVICTED: it is OUT, has a shadow, and its frame is taken");
        PageHold x = Scene.withPages(4, 8);
        x.write(0, 0, 1, 1);
        Scene.bring(x, 1, 2, 3);
        Scene.bring(x, 4);
        DUE.lists(x, "it goes when it is written, at that look", "", "4 3 2 1");
        DUE.page(x, 0, 0, NONE, 0, NONE, 1);
        DUE.is("its frame", x.page(0, 4, 0), 0);
        DUE.runs(x, "written", 1, 0, 1);
    }

    /** ACTIVE from its end: 0 PINNED, 1 fails, 2 is written, 3 is clean; no INACTIVE one can go. */
    private static void behindSoManyLooks() {
        DUE.about("the first that is not PINNED, and not DIRTY or WRITTEN now, is EVICTED");
        PageHold x = Scene.withPages(8, 8);
        Scene.makeActive(x, 0, 1, 2, 3);
        x.write(0, 64, 9, 1);
        x.sync(0);
        x.write(0, 128, 9, 1);
        x.sync(0);
        x.fail(0, true);
        x.fail(2, true);
        for (int page : new int[] {4, 5, 6, 0}) {
            x.pin(0, page, true);
        }
        x.write(0, 448, 9, 1);
        x.write(0, 64, 8, 1);
        x.write(0, 128, 8, 1);
        DUE.lists(x, "before", "3 2 1 0", "7 6 5 4");
        DUE.is("takes the frame of 2", x.read(0, 640, 1), 1);
        DUE.lists(x, "none moves", "3 1 0", "10 7 6 5 4");
        DUE.is("the frame of 2", x.page(0, 10, 0), 2);
        DUE.runs(x, "2 was written", 1, 1, 1);
        DUE.is("the others stay REFERENCED", x.page(0, 1, 5) + x.page(0, 0, 5), 2);
        DUE.is("1 and 7 are DIRTY still", x.told(2), 2);
        DUE.is("7 has its block", x.page(0, 7, 1), 2);
    }

    private static void withoutInactiveOnes() {
        DUE.about("or without INACTIVE ones, ACTIVE is gone through once from its end");
        PageHold x = Scene.withPages(4, 8, 0, 1, 2, 3);
        Scene.bring(x, 2, 0, 3, 1);
        Scene.bring(x, 4);
        DUE.lists(x, "all were REFERENCED and INACTIVE", "3 2 1", "4");
        DUE.is("the end of ACTIVE went", x.page(0, 0, 3), 1);
        x = Scene.withPages(4, 8, 2, 3);
        Scene.makeActive(x, 0, 1);
        Scene.bring(x, 2, 3);
        Scene.bring(x, 0, 1);
        Scene.bring(x, 4);
        DUE.lists(x, "REFERENCED or not", "3 2 1", "4");
        DUE.is("none of ACTIVE is otherwise", x.page(0, 1, 5), 1);
    }

    private static void theFrontOfActive() {
        DUE.about("ACTIVE is gone through once from its end: the first that is not PINNED");
        PageHold x = Scene.withoutFrames(4);
        x.truncate(0, 640);
        x.fail(3, false);
        x.sync(0);
        DUE.is("three fail", x.told(2), 3);
        Scene.bring(x, 0, 1, 2, 3);
        Scene.bring(x, 4);
        DUE.lists(x, "all came to ACTIVE, and the one at its front went", "2 1 0", "4");
        DUE.is("its frame", x.page(0, 4, 0), 3);
    }

    private static void noFrameForPinnedAndFailing() {
        DUE.about("Else there is NO FRAME: the call ends there (what was done before stays)");
        PageHold x = Scene.withoutFrames(4);
        Scene.failAll(x, false);
        x.pin(0, 0, true);
        x.pin(0, 1, true);
        x.fail(2, true);
        x.fail(3, true);
        x.truncate(1, 128);
        DUE.is("two are PINNED, two fail", x.read(1, 0, 1), NO_FRAME);
        DUE.is("nothing came", x.tree(1, 2), 0);
        x.pin(0, 1, false);
        Scene.bring(x, 1);
        DUE.lists(x, "before", "1", "3 2 0");
        DUE.is("one is PINNED no more", x.read(1, 0, 1), 1);
        DUE.is("it went", x.page(0, 1, 3) > 0, true);
    }

    // ---- WRITTEN

    /** Eight blocks, all of file 0. */
    private static PageHold withoutBlocks(int frames) {
        PageHold x = new PageHold(frames, 8);
        x.fill(0, 0, 512, 1);
        x.sync(0);
        return x;
    }

    private static void withoutAFreeBlock() {
        DUE.about("without one this fails, and NO ROOM is its file's ERROR");
        PageHold x = withoutBlocks(16);
        DUE.is("the last block was given", x.page(0, 7, 1), 7);
        DUE.is("none is free", x.told(8), 0);
        x.fill(1, 0, 64, 1);
        DUE.is("none is written", x.syncAll(), 0);
        DUE.is("ERROR", x.tree(1, 5), NO_ROOM);
        DUE.page(x, 1, 0, 8, NONE, 0);
        DUE.is("no WRITE", x.told(7), 8);
        x.punch(0, 3, 1);
        DUE.is("one is free", x.syncAll(), 1);
        DUE.is("it has it", x.page(1, 0, 1), 3);
        DUE.is("the ERROR is not told yet", x.tree(1, 5), NO_ROOM);
    }

    private static void withoutAFreeBlockForAFrame() {
        DUE.about("if it is DIRTY, it is WRITTEN, and when this fails goes to the front of INACTIVE");
        PageHold x = withoutBlocks(4);
        x.drop();
        x.fill(1, 0, 64, 1);
        Scene.bring(x, 0, 1, 2);
        DUE.lists(x, "before", "", "2 1 0 256");
        Scene.bring(x, 3);
        DUE.lists(x, "no room for it", "", "3 256 2 1");
        DUE.is("ERROR", x.tree(1, 5), NO_ROOM);
        DUE.is("none of the other file", x.tree(0, 5), 0);
    }

    private static void aBlockThatFails() {
        DUE.about("nothing is written (it is no WRITE), this fails (the page has the block)");
        PageHold x = withoutBlocks(16);
        int writes = x.told(7);
        x.fail(5, true);
        x.fill(0, 320, 64, 99);
        DUE.is("none is written", x.syncAll(), 0);
        DUE.is("ERROR", x.tree(0, 5), DEFECT);
        DUE.is("no WRITE", x.told(7), writes);
        DUE.runs(x, "the RECORD of the call before", 1, 0, 8);
        DUE.is("the block is as it was", x.disk(5, 0), 1 + 3 * 320 & 255);
        DUE.page(x, 0, 5, 5, 5, 0);
    }

    private static void aFreeBlockThatFailsIsGiven() {
        DUE.about("a page without a block gets the least that is free");
        PageHold x = new PageHold(16, 8);
        x.fail(0, true);
        x.fill(0, 0, 128, 1);
        DUE.is("one is written", x.syncAll(), 1);
        DUE.is("the least, which fails", x.page(0, 0, 1), 0);
        DUE.is("the next", x.page(0, 1, 1), 1);
        DUE.is("two are given", x.told(8), 6);
        x.punch(0, 0, 1);
        DUE.is("one is free again", x.told(8), 7);
        x.fill(1, 0, 64, 1);
        DUE.is("the least once more", x.sync(1), DEFECT);
        DUE.is("it has it", x.page(1, 0, 1), 0);
    }

    private static void aBlockThatFailsIsRead() {
        DUE.about("its bytes are those of its block (a READ of that block)");
        PageHold x = withoutBlocks(16);
        x.drop();
        x.fail(0, true);
        DUE.is("bytes", x.read(0, 0, 64), 64);
        DUE.is("the last one", x.hand(63), 1 + 3 * 63 & 255);
        DUE.is("READS, with the one ahead", x.told(6), 2);
        DUE.is("no ERROR", x.told(11), 0);
    }

    /** The cut at byte 74 was lost, so that the frame has bytes behind it when it is written. */
    private static void behindTheSize() {
        DUE.about("bytes behind the file's size are 0 there");
        PageHold x = new PageHold(4, 8);
        x.fill(0, 0, 128, 1);
        x.sync(0);
        x.truncate(0, 74);
        x.crash();
        x.write(0, 64, 7, 1);
        DUE.is("before it is written", x.disk(1, 10), 1 + 3 * 74);
        x.sync(0);
        DUE.is("what was written", x.disk(1, 0), 7);
        DUE.is("the last within the size", x.disk(1, 9), 1 + 3 * 73);
        DUE.is("the first behind it", x.disk(1, 10), 0);
        DUE.is("the last of the block", x.disk(1, 63), 0);
        DUE.is("the page before", x.disk(0, 63), 1 + 3 * 63);
    }

    private static void theFirstErrorStays() {
        DUE.about("(An ERROR stays as the first was, till it is told.)");
        PageHold x = withoutBlocks(16);
        x.fill(1, 0, 64, 1);
        x.syncAll();
        DUE.is("NO ROOM", x.tree(1, 5), NO_ROOM);
        x.punch(0, 0, 1);
        x.fail(0, true);
        x.syncAll();
        DUE.is("it has the block", x.page(1, 0, 1), 0);
        DUE.is("the first stays", x.tree(1, 5), NO_ROOM);
        DUE.is("once more", x.tree(1, 5), NO_ROOM);
        DUE.is("and is told", x.sync(1), NO_ROOM);
        DUE.is("none any more", x.tree(1, 5), 0);
        DUE.is("the next is the other", x.sync(1), DEFECT);
        x.syncAll();
        DUE.is("DEFECT", x.tree(1, 5), DEFECT);
        x.fill(1, 64, 64, 1);
        x.syncAll();
        DUE.is("stays, too", x.tree(1, 5), DEFECT);
        x.fail(0, false);
        x.syncAll();
        DUE.is("also when its page is written", x.tree(1, 5), DEFECT);
        DUE.is("told", x.sync(1), DEFECT);
        DUE.is("then NO ROOM", x.sync(1), NO_ROOM);
    }

    private static void anErrorIsOfOneFile() {
        DUE.about("DEFECT is its file's ERROR");
        PageHold x = withoutBlocks(16);
        x.fill(1, 0, 64, 1);
        x.fail(2, true);
        x.fill(0, 128, 64, 1);
        x.syncAll();
        DUE.is("its own", x.tree(0, 5), DEFECT);
        DUE.is("another's", x.tree(1, 5), NO_ROOM);
        DUE.is("none", x.tree(2, 5), 0);
        DUE.is("files with an ERROR", x.told(11), 2);
        DUE.is("told", x.sync(0), DEFECT);
        DUE.is("the other stays", x.tree(1, 5), NO_ROOM);
    }

    // ---- what is DIRTY

    private static void alsoWithWhatItHad() {
        DUE.about("when a byte of it is written (also with what it had), or cut off");
        PageHold x = new PageHold(8, 8);
        x.fill(0, 0, 192, 1);
        x.sync(0);
        x.tick(3);
        x.write(0, 0, 1, 1);
        DUE.is("with what it had", x.page(0, 0, 2), 3);
        x.truncate(0, 191);
        DUE.is("cut off", x.page(0, 2, 2), 3);
        DUE.is("the others not", x.page(0, 1, 2), NONE);
        DUE.about("when it is so already, since then still");
        x.tick(1);
        x.write(0, 1, 1, 1);
        x.truncate(0, 190);
        DUE.is("written again", x.page(0, 0, 2), 3);
        DUE.is("cut off again", x.page(0, 2, 2), 3);
    }

    private static void fillPages(PageHold x, int file, int pages) {
        for (int page = 0; page < pages; page++) {
            x.write(file, 64 * page, 1, 1);
        }
    }

    private static void halfAndQuarterCutOff(int frames) {
        DUE.about("if more pages are DIRTY than half the frames (cut off)");
        PageHold x = new PageHold(frames, 64);
        fillPages(x, 0, frames / 2);
        DUE.is("half of " + frames, x.told(2), frames / 2);
        DUE.is("no WRITE", x.told(7), 0);
        DUE.about("as long as more are than a quarter (cut off)");
        x.write(0, 64 * (frames / 2), 1, 1);
        DUE.is("a quarter of " + frames, x.told(2), frames / 4);
        DUE.is("WRITES", x.told(7), frames / 2 + 1 - frames / 4);
        DUE.is("the oldest of them", x.next(0, 0, 1), frames / 2 + 1 - frames / 4);
    }

    private static void onceBehindAFill() {
        DUE.about("Behind each write() and fill()");
        PageHold x = new PageHold(8, 8);
        x.fill(0, 0, 384, 1);
        DUE.is("six pages, and two of them left", x.told(2), 2);
        DUE.is("WRITES", x.told(7), 4);
        DUE.runs(x, "WRITES", 1, 0, 4);
    }

    /** Five of eight frames are DIRTY, so many of which fail, page 0 and on. */
    private static void thoseThatFailAreLeftOut(int failing, int writes, int left) {
        DUE.about("as long as more are than a quarter (cut off), those that fail left out");
        PageHold x = new PageHold(8, 8);
        for (int block = 0; block < failing; block++) {
            x.fail(block, true);
        }
        fillPages(x, 0, 5);
        DUE.is(failing + " fail: WRITES", x.told(7), writes);
        DUE.is(failing + " fail: DIRTY", x.told(2), left);
        for (int page = 0; page < failing; page++) {
            DUE.is("it has its block", x.page(0, page, 1), page);
            DUE.is("it is DIRTY", x.page(0, page, 2), 0);
        }
    }

    private static void theYoungestOfAllFrames() {
        DUE.about("the OLDEST are written, one by one");
        for (int frames : new int[] {4, 7, 8}) {
            PageHold x = Scene.withoutFrames(frames);
            x.fail(frames - 1, false);
            x.write(0, 0, 1, 1);
            DUE.is("all but the youngest fail", x.told(2), frames - 1);
            DUE.is("it is written", x.page(0, frames - 1, 2), NONE);
            DUE.runs(x, "WRITES", 1, frames - 1, 1);
        }
    }

    /** Pages 0 and 1 are PINNED and could be written, 2 and 3 fail. */
    private static void thatWroteSomething() {
        DUE.about("Behind each write() and fill() that wrote something");
        PageHold x = Scene.withoutFrames(4);
        x.pin(0, 0, true);
        x.pin(0, 1, true);
        x.fail(0, false);
        x.fail(1, false);
        DUE.is("write: nothing", x.write(1, 0, 1, 1), NO_FRAME);
        DUE.is("fill: nothing", x.fill(1, 0, 64, 1), NO_FRAME);
        DUE.is("a number that is not as it may be", x.write(0, 0, 1, 0), BAD);
        DUE.is("DIRTY still", x.told(2), 4);
        DUE.is("no WRITE", x.told(7), 0);
        DUE.is("write: something", x.write(0, 0, 1, 1), 1);
        DUE.is("two are written", x.told(2), 2);
        DUE.runs(x, "WRITES", 1, 0, 2);
    }

    private static void notBehindOtherCalls() {
        DUE.about("Behind each write() and fill()");
        PageHold x = Scene.withoutFrames(4);
        Scene.failAll(x, false);
        x.truncate(0, 255);
        x.pin(0, 0, true);
        x.read(0, 64, 1);
        x.tick(4);
        x.drop();
        DUE.is("DIRTY still", x.told(2), 4);
        x.fill(0, 0, 1, 1);
        DUE.is("a quarter", x.told(2), 1);
    }

    private static void cutShortWroteSomething() {
        DUE.about("Behind each write() and fill() that wrote something");
        PageHold x = Scene.withoutFrames(4);
        x.pin(0, 0, true);
        x.pin(0, 1, true);
        x.fail(0, false);
        x.fail(1, false);
        DUE.is("fill: cut short", x.fill(0, 200, 100, 1), 56);
        DUE.is("two are written", x.told(2), 2);
        DUE.runs(x, "WRITES", 1, 0, 2);
    }

    private static void dirtyForFive() {
        DUE.about("At each second of time, behind it, the oldest that are DIRTY for 5 or more");
        PageHold x = new PageHold(16, 16);
        x.tick(7);
        x.write(0, 0, 1, 1);
        DUE.is("4", x.tick(4), 0);
        x.write(0, 64, 1, 1);
        DUE.is("0 more", x.tick(0), 0);
        DUE.is("5", x.tick(1), 1);
        DUE.is("4 of the other", x.tick(3), 0);
        x.fail(1, true);
        DUE.is("5 of the other, which fails", x.tick(1), 0);
        x.fail(1, false);
        DUE.is("no second", x.tick(0), 0);
        DUE.is("6 of the other", x.tick(1), 1);
        DUE.is("nothing is left", x.tick(1000), 0);
    }

    private static void fourASecond() {
        DUE.about("4 at most (those that fail count)");
        for (int failing = 0; failing <= 4; failing++) {
            PageHold x = new PageHold(16, 16);
            for (int block = 0; block < failing; block++) {
                x.fail(block, true);
            }
            fillPages(x, 0, 6);
            DUE.is(failing + " fail", x.tick(5), 4 - failing);
            DUE.is(failing + " fail: DIRTY", x.told(2), 2 + failing);
            int more = failing == 4 ? 0 : Math.min(2, 4 - failing);
            DUE.is(failing + " fail, a second more", x.tick(1), more);
        }
    }

    // ---- THE RECORD

    private static void oneBehindTheOtherUpward() {
        DUE.about("READS and WRITES of blocks that follow one another upward, one behind the other");
        PageHold x = new PageHold(16, 16);
        x.fill(0, 0, 320, 1);
        x.sync(0);
        DUE.runs(x, "0 to 4", 1, 0, 5);
        x.fill(0, 0, 64, 2);
        x.fill(0, 128, 128, 2);
        x.sync(0);
        DUE.runs(x, "0, 2 and 3", 1, 0, 1, 1, 2, 2);
        x.punch(0, 0, 2);
        x.write(0, 64, 1, 1);
        x.sync(0);
        x.write(0, 0, 1, 1);
        x.sync(0);
        x.drop();
        x.read(0, 0, 128);
        DUE.runs(x, "1, then 0", 0, 1, 1, 0, 0, 1);
    }

    /** One frame for all pages of file 1: page 3 is READ ahead of page 2, and again for itself. */
    private static PageHold withOneFrame() {
        PageHold x = new PageHold(4, 8);
        x.fill(1, 0, 384, 1);
        x.sync(1);
        x.drop();
        x.fail(6, true);
        x.fail(7, true);
        x.fill(0, 0, 192, 1);
        DUE.is("three DIRTY ones", x.told(0), 3);
        return x;
    }

    private static void theSameBlockAgain() {
        DUE.about("READS and WRITES of blocks that follow one another upward, one behind the other");
        PageHold x = withOneFrame();
        DUE.is("four pages", x.read(1, 0, 256), 256);
        DUE.runs(x, "0 to 5, then 3", 0, 0, 6, 0, 3, 1);
        DUE.is("the last byte", x.hand(255), 1 + 3 * 255 & 255);
        DUE.is("READS", x.told(6), 7);
        DUE.is("another: WINDOW", x.tree(1, 3), 1);
        DUE.is("another: NEXT", x.tree(1, 4), 4);
        x = withOneFrame();
        x.punch(1, 4, 2);
        x.fail(4, true);
        x.fail(5, true);
        DUE.is("four pages ahead of holes", x.read(1, 0, 256), 256);
        DUE.runs(x, "0 to 3, then 3", 0, 0, 4, 0, 3, 1);
    }

    private static void ofTheSameKind() {
        DUE.about("and are of the same kind are one RUN");
        PageHold x = new PageHold(4, 8);
        x.fill(0, 0, 128, 1);
        x.sync(0);
        x.punch(0, 0, 1);
        x.drop();
        x.truncate(0, 640);
        x.write(0, 512, 1, 1);
        Scene.bring(x, 2, 3, 4);
        x.read(0, 64, 1);
        DUE.runs(x, "WRITE 0, then READ 1", 1, 0, 1, 0, 1, 1);
    }

    private static void theLatestCallThatDidAny() {
        DUE.about("THE RECORD has each READ and WRITE of the latest call that did any");
        PageHold x = new PageHold(8, 8);
        DUE.runs(x, "at first");
        x.fill(0, 0, 128, 1);
        x.sync(0);
        x.sync(0);
        x.read(0, 0, 128);
        x.read(0, 0, 0);
        DUE.runs(x, "these did none", 1, 0, 2);
        x.drop();
        x.write(0, 64, 1, 1);
        DUE.runs(x, "this one did", 0, 1, 1);
    }

    /** Two calls of each kind, one behind the other: the RECORD has that of the second alone. */
    private static void eachCallThatDidAny() {
        DUE.about("THE RECORD has each READ and WRITE of the latest call that did any");
        PageHold x = new PageHold(16, 8);
        x.fill(0, 0, 256, 1);
        x.fill(1, 0, 256, 1);
        x.sync(0);
        x.sync(1);
        DUE.runs(x, "sync", 1, 4, 4);
        x.drop();
        x.pin(1, 1, true);
        x.pin(1, 3, true);
        DUE.runs(x, "pin", 0, 7, 1);
        x.truncate(1, 190);
        DUE.runs(x, "truncate", 0, 6, 1);
        x.write(0, 192, 1, 1);
        x.write(1, 0, 1, 1);
        DUE.runs(x, "write", 0, 4, 1);
        x.fill(0, 64, 1, 1);
        DUE.runs(x, "fill", 0, 1, 1);
        x.read(0, 0, 1);
        DUE.runs(x, "read", 0, 0, 1);
        x = new PageHold(16, 16);
        x.fill(0, 0, 384, 1);
        x.tick(5);
        DUE.runs(x, "tick", 1, 0, 4);
        x.tick(1);
        DUE.runs(x, "tick again", 1, 4, 2);
        x.fail(1, true);
        x.fill(0, 0, 128, 1);
        x.syncAll();
        DUE.runs(x, "syncAll", 1, 0, 1);
        x.fail(1, false);
        x.syncAll();
        DUE.runs(x, "syncAll again", 1, 1, 1);
    }
}
