/**
 * The sections that all promises rest on: touching and AHEAD, frames taken back, WRITTEN, what is
 * DIRTY, THE RECORD. The answers are worked out by hand from the document's words.
 */
public final class TermsTest {
    private static final int NONE = PageHold.NONE;
    private static final Due DUE = new Due("TermsTest");

    public static void main(String[] args) {
        seenAgain();
        aheadAndShadows();
        shadowsAgainstActiveAlone();
        marksGoWithThePage();
        aheadOfOnePageOnly();
        aheadTakesTheFrameOfTheFirst();
        takenFromInactive(false);
        takenFromInactive(true);
        takenFromActiveBehindReferenced();
        takenFromActiveBehindPinned();
        takenFromActiveThoughReferenced();
        takenFromActiveWhenWritten();
        evenedOut();
        noFrame();
        tooManyDirty();
        tooManyDirtyCutOff();
        tooManyDirtyOneFails();
        blocksGoByLeast();
        zeroBehindTheSize();
        firstErrorStays();
        shadowsGoByLeast();
        theRecord();
        theRecordStays();
        everyCallHasItsOwnRecord();
        DUE.end();
    }

    private static void seenAgain() {
        PageHold x = new PageHold(4, 8);
        x.truncate(0, 640);
        x.read(0, 0, 1);
        DUE.lists(x, "brought in, one ahead", "", "1 0");
        DUE.is("frame of the first", x.page(0, 0, 0), 0);
        DUE.is("frame of the one ahead", x.page(0, 1, 0), 1);
        DUE.is("not REFERENCED yet", x.page(0, 0, 5), 0);
        x.read(0, 0, 1);
        DUE.is("REFERENCED", x.page(0, 0, 5), 1);
        DUE.lists(x, "REFERENCED", "", "1 0");
        x.read(0, 0, 1);
        DUE.is("ACTIVE: not REFERENCED any more", x.page(0, 0, 5), 0);
        DUE.lists(x, "ACTIVE", "0", "1");
        x.read(0, 0, 1);
        DUE.is("ACTIVE and REFERENCED", x.page(0, 0, 5), 1);
        x.read(0, 0, 1);
        DUE.is("stays REFERENCED", x.page(0, 0, 5), 1);
        DUE.lists(x, "stays ACTIVE", "0", "1");
        DUE.is("nothing was brought in: WINDOW", x.tree(0, 3), 2);
        DUE.is("nothing was brought in: NEXT", x.tree(0, 4), 2);
    }

    private static void aheadAndShadows() {
        PageHold x = new PageHold(4, 8);
        x.truncate(0, 640);
        for (int i = 0; i < 4; i++) {
            x.read(0, 0, 1);
        }
        x.read(0, 128, 1);
        DUE.is("4: WINDOW", x.tree(0, 3), 4);
        DUE.is("4: NEXT", x.tree(0, 4), 6);
        DUE.is("the first one went for those ahead", x.page(0, 2, 3), 2);
        DUE.lists(x, "4", "0", "5 4 3");
        x.read(0, 384, 1);
        DUE.is("8: WINDOW", x.tree(0, 3), 8);
        DUE.is("8: NEXT is behind the last page with a byte", x.tree(0, 4), 10);
        DUE.lists(x, "8", "0", "9 8 7");
        DUE.is("EVICTED", x.told(5), 6);
        DUE.is("as many shadows as frames", x.told(4), 4);
        DUE.is("the least went", x.page(0, 2, 3), NONE);
        DUE.is("the next stayed", x.page(0, 3, 3), 3);
        x.read(0, 256, 1);
        DUE.is("another one: WINDOW", x.tree(0, 3), 1);
        DUE.is("another one: NEXT", x.tree(0, 4), 5);
        DUE.lists(x, "the shadow is 3 ago, more than ACTIVE", "0", "4 9 8");
        DUE.is("its shadow went", x.page(0, 4, 3), NONE);
        x.read(0, 448, 1);
        DUE.lists(x, "the shadow is 1 ago, as many as ACTIVE", "7 0", "4 9");
        DUE.is("its shadow went, too", x.page(0, 7, 3), NONE);
        x.read(0, 512, 1);
        DUE.lists(x, "evened out for the one ahead", "9 0 8", "7");
        DUE.is("went on: WINDOW", x.tree(0, 3), 2);
        DUE.is("went on: NEXT", x.tree(0, 4), 10);
        DUE.is("REFERENCED no more", x.page(0, 0, 5), 0);
        DUE.is("EVICTED in the end", x.told(5), 10);
    }

    private static void shadowsAgainstActiveAlone() {
        PageHold x = Scene.withPages(8, 8, 0, 1, 2, 3);
        x.drop();
        Scene.bring(x, 10, 11);
        Scene.bring(x, 2);
        DUE.lists(x, "1 ago, none is ACTIVE", "", "2 11 10");
        Scene.bring(x, 3);
        DUE.lists(x, "0 ago", "3", "2 11 10");
        Scene.bring(x, 0);
        DUE.lists(x, "3 ago, one is ACTIVE", "3", "0 2 11 10");
    }

    private static void marksGoWithThePage() {
        PageHold x = Scene.withPages(4, 8);
        x.fill(0, 0, 64, 9);
        x.pin(0, 0, true);
        DUE.is("REFERENCED", x.page(0, 0, 5), 1);
        x.punch(0, 0, 1);
        x.pin(0, 5, true);
        x.pin(0, 5, false);
        DUE.is("the same frame", x.page(0, 5, 0), 0);
        DUE.is("not REFERENCED", x.page(0, 5, 5), 0);
        DUE.is("not PINNED", x.page(0, 5, 6), 0);
        DUE.is("not DIRTY", x.page(0, 5, 2), NONE);
        x.read(0, 320, 1);
        DUE.is("no bytes", x.hand(0), 0);
    }

    private static void aheadOfOnePageOnly() {
        PageHold x = new PageHold(16, 8);
        x.truncate(0, 1024);
        DUE.is("read of 16 pages", x.read(0, 0, 1024), 1024);
        // 0 has 1 ahead, 2 has 3 to 5, 6 has 7 to 13, 14 has 15; the others are SEEN AGAIN.
        DUE.is("WINDOW behind 16 pages", x.tree(0, 3), 8);
        DUE.is("NEXT behind 16 pages", x.tree(0, 4), 16);
        for (int page = 0; page < 16; page++) {
            boolean first = page == 0 || page == 2 || page == 6 || page == 14;
            DUE.is("REFERENCED " + page, x.page(0, page, 5), first ? 0 : 1);
        }
        x = new PageHold(16, 8);
        x.truncate(0, 1024);
        x.read(0, 320, 1);
        DUE.is("no page that goes on: WINDOW", x.tree(0, 3), 1);
        DUE.is("no page that goes on: NEXT", x.tree(0, 4), 6);
        DUE.is("none ahead", x.told(0), 1);
        Scene.bring(x, 7);
        x.read(0, 384, 1);
        DUE.is("one ahead that is IN: NEXT", x.tree(0, 4), 8);
        DUE.is("one ahead that is IN is not SEEN AGAIN", x.page(0, 7, 5), 0);
        x.write(1, 16383, 1, 1);
        x.drop();
        x.truncate(1, 16384);
        x.sync(1);
        x.drop();
        x.read(1, 16383, 1);
        DUE.is("behind the last page of all", x.tree(1, 4), 256);
    }

    private static void aheadTakesTheFrameOfTheFirst() {
        PageHold x = Scene.withoutFrames(4);
        x.truncate(1, 640);
        DUE.is("no frame", x.read(1, 0, 1), PageHold.NO_FRAME);
        DUE.is("WINDOW as it was", x.tree(1, 3), 1);
        DUE.is("NEXT as it was", x.tree(1, 4), 0);
        x.punch(0, 2, 1);
        DUE.is("one frame, for one page behind the other", x.read(1, 0, 128), 128);
        DUE.is("page 1 took the frame of page 0", x.page(1, 0, 0), NONE);
        DUE.is("so it did", x.page(1, 1, 0), 2);
        DUE.is("WINDOW", x.tree(1, 3), 2);
        DUE.is("NEXT is behind the one ahead", x.tree(1, 4), 2);
    }

    private static void takenFromInactive(boolean fails) {
        PageHold x = Scene.withPages(4, 8, 10, 11);
        x.fail(0, fails);
        x.write(0, 768, 5, 1);
        Scene.bring(x, 13);
        x.pin(0, 10, true);
        x.pin(0, 11, true);
        x.pin(0, 11, false);
        DUE.lists(x, "before", "", "13 12 11 10");
        DUE.is("one more page", x.pin(0, 20, true), false);
        DUE.is("PINNED", x.page(0, 20, 6), 1);
        DUE.is("REFERENCED no more", x.page(0, 11, 5), 0);
        DUE.is("still REFERENCED, for it is PINNED", x.page(0, 10, 5), 1);
        DUE.is("block of the DIRTY one", x.page(0, 12, 1), 0);
        DUE.is("EVICTED", x.told(5), 1);
        if (fails) {
            DUE.lists(x, "fails", "11", "20 12 10");
            DUE.is("frame", x.page(0, 20, 0), 3);
            DUE.is("shadow", x.page(0, 13, 3), 1);
            DUE.is("DIRTY still", x.page(0, 12, 2), 0);
            DUE.is("ERROR", x.tree(0, 5), PageHold.DEFECT);
            DUE.is("no WRITE", x.told(7), 0);
            DUE.runs(x, "no RECORD");
        } else {
            DUE.lists(x, "written", "11", "20 10 13");
            DUE.is("frame", x.page(0, 20, 0), 2);
            DUE.is("shadow", x.page(0, 12, 3), 1);
            DUE.is("DIRTY no more", x.page(0, 12, 2), NONE);
            DUE.is("no ERROR", x.tree(0, 5), 0);
            DUE.runs(x, "RECORD", 1, 0, 1);
        }
    }

    private static void takenFromActiveBehindReferenced() {
        PageHold x = Scene.withPages(4, 8, 0, 1, 2, 3);
        Scene.bring(x, 0, 1, 2, 3);
        Scene.bring(x, 4);
        DUE.lists(x, "all were REFERENCED", "3 2 1", "4");
        DUE.is("the end of ACTIVE went", x.page(0, 0, 3), 1);
        DUE.is("REFERENCED no more", x.next(0, 0, 2), NONE);
    }

    private static void takenFromActiveBehindPinned() {
        PageHold x = Scene.withPages(4, 8, 0, 1, 2, 3);
        Scene.bring(x, 1, 2, 3);
        x.pin(0, 0, true);
        Scene.bring(x, 4);
        DUE.lists(x, "the PINNED one was looked at till the looks ended", "3 2", "4 0");
        DUE.is("the end of ACTIVE went", x.page(0, 1, 3), 1);
    }

    private static void takenFromActiveThoughReferenced() {
        PageHold x = Scene.withPages(4, 8, 0, 1, 2, 3);
        Scene.bring(x, 0, 1, 0, 1, 0, 1);
        x.pin(0, 2, true);
        x.pin(0, 3, true);
        DUE.lists(x, "before", "1 0", "3 2");
        DUE.is("REFERENCED", x.page(0, 0, 5), 1);
        DUE.is("read takes a frame", x.read(0, 640, 1), 1);
        DUE.lists(x, "behind", "1", "10 3 2");
        DUE.is("the others stay REFERENCED", x.page(0, 1, 5), 1);
        DUE.is("the frame", x.page(0, 10, 0), 0);
    }

    private static void takenFromActiveWhenWritten() {
        PageHold x = Scene.withPages(4, 8, 0, 1, 2, 3);
        Scene.bring(x, 0, 1, 0, 1);
        x.pin(0, 2, true);
        x.pin(0, 3, true);
        x.write(0, 0, 9, 1);
        x.write(0, 64, 9, 1);
        x.fail(0, true);
        x.read(0, 640, 1);
        DUE.lists(x, "the end failed, the one ahead of it was written", "0", "10 3 2");
        DUE.runs(x, "written now", 1, 1, 1);
        DUE.is("DIRTY still", x.page(0, 0, 2), 0);
        DUE.is("ERROR", x.tree(0, 5), PageHold.DEFECT);
    }

    private static void evenedOut() {
        PageHold x = Scene.withPages(4, 8, 0, 1, 2, 3);
        Scene.bring(x, 0, 1, 2, 3, 0, 1, 2, 3, 1);
        DUE.lists(x, "all ACTIVE", "3 2 1 0", "");
        Scene.bring(x, 4);
        // 0 goes to INACTIVE, 1 is passed over, 2 goes to INACTIVE; 0 is evicted.
        DUE.lists(x, "evened out", "1 3", "4 2");
        DUE.is("0 went", x.page(0, 0, 3), 1);
        DUE.is("1 is REFERENCED no more", x.page(0, 1, 5), 0);
    }

    private static void noFrame() {
        PageHold x = Scene.withoutFrames(4);
        DUE.is("all are DIRTY", x.told(2), 4);
        DUE.lists(x, "before", "", "3 2 1 0");
        x.truncate(1, 100);
        DUE.is("NO_FRAME", x.read(1, 0, 1), PageHold.NO_FRAME);
        DUE.lists(x, "behind 8 looks", "", "3 2 1 0");
        x.punch(0, 3, 1);
        Scene.bring(x, 1);
        x.pin(1, 0, true);
        // 0 fails and 1 is REFERENCED; 2, the PINNED one and 0 are looked at twice more in turn.
        DUE.is("NO_FRAME again", x.read(1, 64, 1), PageHold.NO_FRAME);
        DUE.lists(x, "what was done before stays", "1", "0 256 2");
    }

    private static void tooManyDirty() {
        PageHold x = new PageHold(8, 16);
        x.write(1, 0, 1, 1);
        x.tick(1);
        x.write(0, 64, 1, 1);
        x.write(0, 0, 1, 1);
        x.tick(1);
        x.write(0, 128, 1, 1);
        x.write(1, 1, 2, 1);
        DUE.is("half is not more than half", x.told(2), 4);
        DUE.is("DIRTY since then still", x.page(1, 0, 2), 0);
        x.write(2, 0, 1, 1);
        DUE.is("a quarter is left", x.told(2), 2);
        DUE.is("the oldest first", x.page(1, 0, 1), 0);
        DUE.is("then the lower page", x.page(0, 0, 1), 1);
        DUE.is("then the higher page", x.page(0, 1, 1), 2);
        DUE.is("not this one", x.page(0, 2, 1), NONE);
        DUE.is("DIRTY since", x.page(0, 2, 2), 2);
        DUE.runs(x, "one RUN", 1, 0, 3);
        // Of one age, files go before pages.
        x = new PageHold(4, 8);
        x.write(1, 0, 1, 1);
        x.write(0, 640, 1, 1);
        x.write(1, 640, 1, 1);
        DUE.is("file 0 is first", x.page(0, 10, 1), 0);
        DUE.is("file 1 is second", x.page(1, 0, 1), 1);
        DUE.is("one is left", x.next(1, 0, 1), 10);
    }

    private static void tooManyDirtyCutOff() {
        int[][] rows = {{4, 2, 1}, {5, 2, 1}, {7, 3, 1}, {8, 4, 2}, {11, 5, 2}, {16, 8, 4}, {27, 13, 6}};
        for (int[] numbers : rows) {
            PageHold x = new PageHold(numbers[0], 64);
            x.fill(0, 0, 64 * numbers[1], 1);
            DUE.is("half of " + numbers[0], x.told(2), numbers[1]);
            x.write(1, 0, 1, 1);
            DUE.is("a quarter of " + numbers[0], x.told(2), numbers[2]);
        }
    }

    private static void tooManyDirtyOneFails() {
        PageHold x = new PageHold(8, 16);
        x.fail(1, true);
        x.write(1, 0, 1, 1);
        x.tick(1);
        x.fill(0, 0, 128, 1);
        x.tick(1);
        x.write(0, 128, 1, 1);
        x.write(2, 0, 1, 1);
        DUE.is("a quarter is left", x.told(2), 2);
        DUE.is("the one that failed is left", x.page(0, 0, 2), 1);
        DUE.is("and the youngest", x.page(2, 0, 2), 2);
        DUE.is("the one that failed has its block", x.page(0, 0, 1), 1);
        DUE.runs(x, "without the one that failed", 1, 0, 1, 1, 2, 2);
        DUE.is("ERROR", x.tree(0, 5), PageHold.DEFECT);
    }

    private static void blocksGoByLeast() {
        PageHold x = new PageHold(16, 8);
        x.fill(0, 0, 320, 1);
        x.sync(0);
        x.punch(0, 1, 1);
        x.punch(0, 3, 1);
        DUE.is("free blocks", x.told(8), 5);
        x.fill(3, 0, 192, 1);
        x.sync(3);
        DUE.is("first free", x.page(3, 0, 1), 1);
        DUE.is("second free", x.page(3, 1, 1), 3);
        DUE.is("third free", x.page(3, 2, 1), 5);
    }

    /** Bytes behind the size come back with a page whose cut was lost; on the disk they are 0. */
    private static void zeroBehindTheSize() {
        PageHold x = new PageHold(4, 8);
        x.fill(0, 0, 64, 1);
        x.sync(0);
        x.truncate(0, 10);
        x.crash();
        DUE.is("the block has them still", x.disk(0, 10), 31);
        x.write(0, 0, 7, 1);
        x.sync(0);
        DUE.is("within the size", x.disk(0, 9), 28);
        DUE.is("behind it", x.disk(0, 10), 0);
        x.truncate(0, 64);
        x.read(0, 0, 64);
        DUE.is("the frame has them", x.hand(10), 31);
        x.drop();
        x.read(0, 0, 64);
        DUE.is("the block has not", x.hand(10), 0);
        DUE.is("the block has the others", x.hand(9), 28);
    }

    private static void firstErrorStays() {
        PageHold x = new PageHold(32, 8);
        x.fail(7, true);
        x.fill(0, 0, 576, 1);
        DUE.is("DEFECT came first", x.sync(0), PageHold.DEFECT);
        DUE.is("NO_ROOM and DEFECT came again", x.sync(0), PageHold.DEFECT);
        x.fail(7, false);
        DUE.is("NO_ROOM is left", x.sync(0), PageHold.NO_ROOM);
        x.punch(0, 0, 1);
        DUE.is("all is well", x.sync(0), 1);
    }

    private static void shadowsGoByLeast() {
        PageHold x = Scene.withPages(4, 8, 0, 1, 2, 3);
        x.drop();
        Scene.bring(x, 4, 5, 6, 7);
        DUE.is("as many as frames", x.told(4), 4);
        x.drop();
        DUE.is("still", x.told(4), 4);
        DUE.is("the least are gone", x.next(0, 0, 4), 4);
        DUE.is("shadow", x.page(0, 4, 3), 5);
        x.punch(0, 5, 1);
        DUE.is("a hole has none", x.told(4), 3);
        Scene.bring(x, 9);
        x.drop();
        DUE.is("there was room for one", x.page(0, 4, 3), 5);
        DUE.is("shadow", x.page(0, 9, 3), 9);
    }

    private static void theRecord() {
        PageHold x = new PageHold(8, 8);
        x.write(0, 64, 1, 1);
        x.sync(0);
        DUE.runs(x, "a WRITE", 1, 0, 1);
        x.write(0, 0, 1, 1);
        x.sync(0);
        DUE.runs(x, "the latest call alone", 1, 1, 1);
        x.drop();
        x.read(0, 0, 128);
        DUE.runs(x, "downward they are two", 0, 1, 1, 0, 0, 1);
        DUE.is("READS", x.told(6), 2);
        DUE.is("WRITES", x.told(7), 2);
        x = new PageHold(4, 8);
        x.fill(0, 0, 128, 1);
        x.sync(0);
        DUE.runs(x, "upward they are one", 1, 0, 2);
        x.truncate(1, 640);
        x.drop();
        x.fill(2, 0, 64, 1);
        x.pin(1, 9, true);
        x.pin(1, 8, true);
        x.pin(0, 0, true);
        x.truncate(0, 640);
        x.write(0, 192, 1, 1);
        x.write(0, 64, 1, 1);
        DUE.runs(x, "a WRITE for the frame, then a READ", 1, 2, 1, 0, 1, 1);
    }

    private static void theRecordStays() {
        PageHold x = new PageHold(4, 8);
        x.fill(0, 0, 128, 1);
        x.sync(0);
        x.read(0, 0, 1);
        x.write(0, 0, 1, 1);
        x.sync(5);
        x.tick(4);
        x.punch(0, 1, 1);
        x.pin(0, 0, true);
        x.truncate(0, 5);
        x.drop();
        x.crash();
        x.syncAll();
        DUE.runs(x, "none of these did any", 1, 0, 2);
        x.read(0, 0, 1);
        DUE.runs(x, "this one did", 0, 0, 1);
    }

    /** Each of these calls has a READ or a WRITE, and the RECORD nothing of the one before. */
    private static void everyCallHasItsOwnRecord() {
        PageHold x = new PageHold(16, 16);
        x.fill(0, 0, 64, 1);
        x.fill(1, 0, 128, 1);
        x.fill(2, 0, 64, 1);
        x.fill(3, 0, 192, 1);
        x.sync(0);
        DUE.runs(x, "sync", 1, 0, 1);
        x.sync(1);
        DUE.runs(x, "sync again", 1, 1, 2);
        x.tick(5);
        DUE.runs(x, "tick", 1, 3, 4);
        x.fill(2, 0, 64, 1);
        x.fill(3, 64, 64, 1);
        x.sync(3);
        DUE.runs(x, "sync once more", 1, 5, 1);
        x.syncAll();
        DUE.runs(x, "syncAll", 1, 3, 1);
        x.drop();
        x.pin(3, 0, true);
        DUE.runs(x, "pin", 0, 4, 1);
        x.truncate(3, 100);
        DUE.runs(x, "truncate", 0, 5, 1);
        x.read(2, 0, 64);
        DUE.runs(x, "read", 0, 3, 1);
        x.write(1, 0, 1, 1);
        DUE.runs(x, "write", 0, 1, 1);
        x.fill(1, 64, 1, 1);
        DUE.runs(x, "fill", 0, 2, 1);
        x.pin(0, 0, true);
        DUE.runs(x, "pin again", 0, 0, 1);
    }
}
