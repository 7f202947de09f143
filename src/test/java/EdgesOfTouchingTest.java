/**
 * The first two sections of "Terms", files, pages, blocks and touching: their sentences that name a
 * boundary case, each with a test of its own. The answers are worked out by hand from the
 * document's words.
 */
public final class EdgesOfTouchingTest {
    private static final int NONE = PageHold.NONE;
    private static final int BAD = PageHold.BAD;
    private static final int NO_FRAME = PageHold.NO_FRAME;
    private static final Due DUE = new Due("EdgesOfTouchingTest");

    public static void main(String[] args) {
        filesAndPages();
        shadows();
        touching();
        ahead();
        DUE.end();
    }

    private static void filesAndPages() {
        sizesOfFiles();
        placesOfPages();
        bytesAreNotSigned();
        heightAndNodes();
    }

    private static void shadows() {
        for (int frames : new int[] {4, 5, 64}) {
            asManyShadowsAsFrames(frames);
        }
        theLeastShadowGoes();
        itsOwnShadowIsTheLeast();
        theLeastAmongShadowsThatWent();
    }

    private static void touching() {
        seenAgain();
        theLeastFreeFrame();
        shadowAgainstActive();
        evictedTillNow();
        onActiveThen(2, true);
        onActiveThen(3, false);
        withoutMarks();
        withoutABlock();
    }

    private static void ahead() {
        eightAtMost();
        anotherMakesItOne();
        onlyWhatReadBringsIn();
        aByteOfTheFile();
        noByteOfTheFile();
        theLastPageOfAll();
        thoseThatAreIn();
        pageByPageOfOneRead();
        nextOfOneReadAlone();
        noFrameButTheFirst();
    }

    // ---- files, pages, blocks

    private static void sizesOfFiles() {
        DUE.about("FILES 0 .. 11 have a SIZE, 0 .. 16384 bytes, 0 at first");
        PageHold x = new PageHold(4, 8);
        for (int file = 0; file <= 11; file++) {
            DUE.is("at first", x.size(file), 0);
            DUE.is("to the most", x.truncate(file, 16384), 0);
            DUE.is("the most", x.size(file), 16384);
            DUE.is("too much", x.truncate(file, 16385), BAD);
            DUE.is("to the least", x.truncate(file, 0), 16384);
            DUE.is("below it", x.truncate(file, -1), BAD);
        }
        DUE.is("no file 12", x.size(12), BAD);
        DUE.is("no file -1", x.size(-1), BAD);
    }

    private static void placesOfPages() {
        DUE.about("PAGE p of a file is its bytes 64 p and on");
        PageHold x = new PageHold(4, 8);
        x.write(0, 63, 1, 1);
        DUE.lists(x, "byte 63", "", "0");
        x.write(1, 64, 1, 1);
        DUE.lists(x, "byte 64", "", "257 0");
        x = new PageHold(4, 8);
        x.write(0, 63, 1, 2);
        DUE.lists(x, "bytes 63 and 64", "", "1 0");
        x = new PageHold(4, 8);
        x.write(0, 120, 1, 8);
        DUE.lists(x, "bytes 120 to 127", "", "1");
        x.write(0, 16383, 1, 1);
        DUE.lists(x, "byte 16383", "", "255 1");
    }

    private static void bytesAreNotSigned() {
        DUE.about("Bytes are 0 .. 255");
        PageHold x = new PageHold(4, 8);
        x.write(0, 0, 0xFF80FF7FL, 4);
        x.sync(0);
        x.read(0, 0, 4);
        int[] bytes = {0x7F, 0xFF, 0x80, 0xFF};
        for (int i = 0; i < 4; i++) {
            DUE.is("hand(" + i + ")", x.hand(i), bytes[i]);
            DUE.is("disk(0, " + i + ")", x.disk(0, i), bytes[i]);
        }
    }

    private static void heightAndNodes() {
        DUE.about("HEIGHT is 0 without entries, else the least h from 1 on with 4^h above");
        int[] greatest = {0, 3, 4, 15, 16, 63, 64, 255};
        int[] heights = {1, 1, 2, 2, 3, 3, 4, 4};
        PageHold x = new PageHold(16, 8);
        x.truncate(0, 16384);
        DUE.is("without entries", x.tree(0, 0), 0);
        DUE.is("without entries", x.tree(0, 1), 0);
        for (int i = 0; i < greatest.length; i++) {
            Scene.bring(x, greatest[i]);
            DUE.is("greatest " + greatest[i], x.tree(0, 0), heights[i]);
        }
        DUE.about("for each k from 1 to h, as many as there are different numbers p / 4^k");
        // By fours 0 1 3 4 15 16 63; by sixteens 0 1 3 4 15; by 64s 0 1 3; by 256s 0.
        DUE.is("nodes", x.tree(0, 1), 7 + 5 + 3 + 1);
        x.punch(0, 5, 251);
        // Of 0, 3 and 4: by fours 0 1; by sixteens 0.
        DUE.is("nodes of 0, 3 and 4", x.tree(0, 1), 3);
    }

    // ---- shadows

    private static int[] pagesBelow(int n) {
        int[] pages = new int[n];
        for (int page = 0; page < n; page++) {
            pages[page] = page;
        }
        return pages;
    }

    private static void asManyShadowsAsFrames(int frames) {
        DUE.about("There are as many as there are frames at most");
        PageHold x = Scene.withPages(frames, 8, pagesBelow(frames - 1));
        x.drop();
        DUE.is("one less", x.told(4), frames - 1);
        Scene.bring(x, frames - 1);
        x.drop();
        DUE.is("as many", x.told(4), frames);
        DUE.is("the least is there", x.page(0, 0, 3), 1);
        Scene.bring(x, frames);
        x.drop();
        DUE.is("not one more", x.told(4), frames);
        DUE.is("the least went", x.page(0, 0, 3), NONE);
        DUE.is("the one behind it stays", x.page(0, 1, 3), 2);
        DUE.is("the new one", x.page(0, frames, 3), frames + 1);
        DUE.is("entries of the tree", x.tree(0, 2), frames);
    }

    /** Shadows 1 to 4 of pages 0 to 3, and the frames full of 10 to 13. */
    private static PageHold withFourShadows() {
        PageHold x = Scene.withPages(4, 8, 0, 1, 2, 3);
        x.drop();
        Scene.bring(x, 10, 11, 12, 13);
        return x;
    }

    private static void theLeastShadowGoes() {
        DUE.about("when one more comes, the least goes");
        PageHold x = withFourShadows();
        Scene.bring(x, 20);
        DUE.is("shadows", x.told(4), 4);
        DUE.is("the least", x.next(0, 0, 4), 1);
        DUE.is("the new one", x.page(0, 10, 3), 5);
        x = withFourShadows();
        Scene.bring(x, 3);
        DUE.is("one comes and the least goes, then its own goes", x.told(4), 3);
        DUE.is("the least went", x.next(0, 0, 4), 1);
        DUE.is("its own went", x.page(0, 3, 3), NONE);
        DUE.is("the new one", x.page(0, 10, 3), 5);
    }

    private static void itsOwnShadowIsTheLeast() {
        DUE.about("when one more comes, the least goes");
        PageHold x = withFourShadows();
        Scene.bring(x, 0);
        DUE.lists(x, "it came without one", "", "0 13 12 11");
        DUE.is("shadows", x.told(4), 4);
        DUE.is("the least", x.next(0, 0, 4), 1);
        DUE.is("the new one", x.page(0, 10, 3), 5);
    }

    private static void theLeastAmongShadowsThatWent() {
        DUE.about("when one more comes, the least goes");
        PageHold x = withFourShadows();
        x.punch(0, 0, 1);
        Scene.bring(x, 20);
        DUE.is("there was room for one", x.page(0, 1, 3), 2);
        Scene.bring(x, 21);
        DUE.is("there was none", x.page(0, 1, 3), NONE);
        DUE.is("the next least", x.page(0, 2, 3), 3);
        x.crash();
        DUE.is("none", x.told(4), 0);
        Scene.bring(x, 0);
        x.drop();
        DUE.is("all EVICTED till then", x.page(0, 0, 3), 7);
    }

    // ---- touching

    private static void seenAgain() {
        DUE.about("if it is not REFERENCED, it becomes so; else, if it is INACTIVE, ..");
        PageHold x = Scene.withPages(4, 8, 0, 1, 2);
        Scene.bring(x, 1);
        DUE.lists(x, "INACTIVE: it stays there", "", "2 1 0");
        DUE.is("REFERENCED", x.page(0, 1, 5), 1);
        Scene.bring(x, 1);
        DUE.lists(x, "INACTIVE and REFERENCED: to ACTIVE", "1", "2 0");
        DUE.is("REFERENCED no more", x.page(0, 1, 5), 0);
        Scene.bring(x, 0, 0);
        DUE.lists(x, "to its front", "0 1", "2");
        Scene.bring(x, 1);
        DUE.lists(x, "ACTIVE: it stays there", "0 1", "2");
        DUE.is("REFERENCED", x.page(0, 1, 5), 1);
        Scene.bring(x, 1);
        DUE.lists(x, "ACTIVE and REFERENCED: it stays there", "0 1", "2");
        DUE.is("REFERENCED still", x.page(0, 1, 5), 1);
    }

    private static void theLeastFreeFrame() {
        DUE.about("it needs a frame (the least that is free");
        PageHold x = Scene.withPages(4, 8, 0, 1, 2, 3);
        x.punch(0, 3, 1);
        x.punch(0, 1, 1);
        Scene.bring(x, 8, 9);
        DUE.is("the least", x.page(0, 8, 0), 1);
        DUE.is("the other one", x.page(0, 9, 0), 3);
        DUE.is("none went for them", x.told(5), 0);
        Scene.bring(x, 10);
        DUE.is("without any, one by 3", x.page(0, 10, 0), 0);
        DUE.is("one went", x.told(5), 1);
    }

    /** Pages 0 to 4 have the shadows 1 to 5; so many others are ACTIVE, and PINNED. */
    private static void shadowAgainstActive() {
        DUE.about("EVICTED till now less the shadow are not more than there are pages on ACTIVE");
        for (int active = 0; active <= 4; active++) {
            for (int page = 0; page <= 4; page++) {
                PageHold x = Scene.withPages(16, 8);
                for (int i = 0; i < active; i++) {
                    Scene.makeActive(x, 100 + i);
                    x.pin(0, 100 + i, true);
                }
                Scene.bring(x, 0, 1, 2, 3, 4);
                x.drop();
                Scene.bring(x, page);
                boolean soon = 4 - page <= active;
                String where = "ago " + (4 - page) + " with ACTIVE " + active;
                DUE.is(where, x.page(0, page, 7), soon ? 1 : 0);
                DUE.is(where + ", at the front", x.listed(soon, 0), page);
                DUE.is(where + ", its shadow goes", x.page(0, page, 3), NONE);
            }
        }
    }

    private static void evictedTillNow() {
        DUE.about("all pages EVICTED till now less the shadow");
        PageHold x = Scene.withPages(4, 8, 0, 1, 2, 3, 4);
        DUE.is("0 went", x.page(0, 0, 3), 1);
        Scene.bring(x, 0);
        DUE.is("1 went for it", x.page(0, 1, 3), 2);
        DUE.lists(x, "which counts", "", "0 4 3 2");
    }

    /** ACTIVE has 3 pages when a page that is OUT is touched, and 2 when it has its frame. */
    private static void onActiveThen(int ago, boolean soon) {
        DUE.about("not more than there are pages on ACTIVE then");
        PageHold x = Scene.withPages(4, 8, 9);
        x.drop();
        for (int i = 1; i < ago; i++) {
            Scene.bring(x, 20 + i);
            x.drop();
        }
        Scene.bring(x, 3);
        Scene.makeActive(x, 0, 1, 2);
        DUE.lists(x, "before", "2 1 0", "3");
        Scene.bring(x, 9);
        if (soon) {
            DUE.lists(x, "2 ago", "9 2 1", "0");
        } else {
            DUE.lists(x, "3 ago", "2 1", "9 0");
        }
    }

    private static void withoutMarks() {
        DUE.about("It is neither DIRTY nor REFERENCED nor PINNED then");
        PageHold x = Scene.withPages(4, 8);
        x.fill(0, 0, 64, 1);
        x.sync(0);
        x.pin(0, 0, true);
        x.write(0, 0, 5, 1);
        x.write(0, 0, 5, 1);
        x.tick(2);
        DUE.page(x, 0, 0, 0, 0, 0, NONE, 0, 1, 1, 1);
        x.crash();
        x.read(0, 0, 1);
        DUE.page(x, 0, 0, 0, 0, NONE, NONE, 1, 0, 0, 0);
        DUE.told(x, "behind a crash", 2, 0, 0, 0);
    }

    private static void withoutABlock() {
        DUE.about("its bytes are those of its block (a READ of that block), or 0 without one");
        PageHold x = new PageHold(4, 8);
        x.fill(0, 0, 128, 9);
        x.sync(0);
        x.punch(0, 0, 1);
        x.drop();
        x.read(0, 0, 128);
        DUE.is("without one", x.hand(0), 0);
        DUE.is("the last of it", x.hand(63), 0);
        DUE.is("with one", x.hand(64), 9 + 3 * 64 & 255);
        DUE.is("the last of it", x.hand(127), 9 + 3 * 127 & 255);
        DUE.is("READS", x.told(6), 1);
        DUE.runs(x, "READS", 0, 1, 1);
    }

    // ---- AHEAD

    private static void eightAtMost() {
        DUE.about("makes its WINDOW twice as great, 8 at most");
        PageHold x = new PageHold(64, 8);
        x.truncate(0, 16384);
        int[] windows = {2, 4, 8, 8, 8};
        int[] nexts = {2, 6, 14, 22, 30};
        for (int i = 0; i < windows.length; i++) {
            x.read(0, 64 * x.tree(0, 4), 1);
            DUE.is("WINDOW", x.tree(0, 3), windows[i]);
            DUE.is("NEXT", x.tree(0, 4), nexts[i]);
            DUE.is("pages IN", x.told(0), nexts[i]);
        }
        DUE.is("of the file alone", x.tree(1, 3), 1);
    }

    private static void anotherMakesItOne() {
        DUE.about("another one makes it 1 (1 at first)");
        PageHold x = new PageHold(64, 8);
        x.truncate(0, 16384);
        DUE.is("at first", x.tree(0, 3), 1);
        x.read(0, 0, 1);
        x.read(0, 128, 1);
        DUE.is("WINDOW", x.tree(0, 3), 4);
        x.read(0, 448, 1);
        DUE.is("one behind NEXT", x.tree(0, 3), 1);
        DUE.is("NEXT", x.tree(0, 4), 8);
        DUE.is("none ahead", x.told(0), 7);
        x.read(0, 512, 1);
        DUE.is("NEXT again", x.tree(0, 3), 2);
        x.read(0, 384, 1);
        DUE.is("one far before NEXT", x.tree(0, 3), 1);
        DUE.is("NEXT", x.tree(0, 4), 7);
        x.drop();
        x.read(0, 384, 1);
        DUE.is("one before NEXT", x.tree(0, 3), 1);
        DUE.is("NEXT", x.tree(0, 4), 7);
        x.truncate(1, 16384);
        x.read(1, 64, 1);
        DUE.is("NEXT is 0 at first, so this is another", x.tree(1, 3), 1);
        DUE.is("NEXT", x.tree(1, 4), 2);
    }

    private static void onlyWhatReadBringsIn() {
        DUE.about("a page that read() brings in");
        PageHold x = Scene.withPages(16, 8);
        x.pin(0, 0, true);
        x.write(0, 64, 1, 1);
        x.fill(0, 128, 64, 1);
        x.truncate(0, 130);
        x.truncate(0, 16384);
        DUE.is("pin, write, fill, truncate: WINDOW", x.tree(0, 3), 1);
        DUE.is("pin, write, fill, truncate: NEXT", x.tree(0, 4), 0);
        x.read(0, 0, 192);
        DUE.is("read of what is IN: WINDOW", x.tree(0, 3), 1);
        DUE.is("read of what is IN: NEXT", x.tree(0, 4), 0);
        DUE.is("nothing ahead of it", x.told(0), 3);
    }

    private static void aByteOfTheFile() {
        DUE.about("but those alone that have a byte of the file");
        PageHold x = new PageHold(16, 8);
        x.truncate(0, 193);
        x.read(0, 0, 1);
        x.read(0, 128, 1);
        DUE.is("WINDOW", x.tree(0, 3), 4);
        DUE.is("page 3 has one", x.page(0, 3, 0), 3);
        DUE.is("page 4 has none", x.page(0, 4, 0), NONE);
        DUE.is("NEXT", x.tree(0, 4), 4);
        x.truncate(0, 16384);
        x.read(0, 256, 1);
        DUE.is("it goes on there", x.tree(0, 3), 8);
    }

    private static void noByteOfTheFile() {
        DUE.about("behind the first one, if there was none");
        PageHold x = new PageHold(16, 8);
        x.truncate(0, 192);
        x.read(0, 0, 1);
        x.read(0, 128, 1);
        DUE.is("WINDOW", x.tree(0, 3), 4);
        DUE.is("page 3 has none", x.page(0, 3, 0), NONE);
        DUE.is("NEXT", x.tree(0, 4), 3);
        x.truncate(1, 64);
        x.read(1, 0, 1);
        DUE.is("a file of one page: WINDOW", x.tree(1, 3), 2);
        DUE.is("a file of one page: NEXT", x.tree(1, 4), 1);
    }

    private static void theLastPageOfAll() {
        DUE.about("but those alone that have a byte of the file");
        PageHold x = new PageHold(16, 8);
        x.truncate(0, 16384);
        x.read(0, 64 * 253, 1);
        x.read(0, 64 * 254, 1);
        DUE.is("page 255", x.page(0, 255, 0), 2);
        DUE.is("NEXT", x.tree(0, 4), 256);
        DUE.is("none of the file behind it", x.tree(1, 2), 0);
        x.drop();
        x.read(0, 16383, 1);
        DUE.is("another: WINDOW", x.tree(0, 3), 1);
        DUE.is("another: NEXT", x.tree(0, 4), 256);
    }

    private static void thoseThatAreIn() {
        DUE.about("NEXT is the page behind the last one that was gone through so and is IN then");
        PageHold x = Scene.withPages(16, 8, 1, 5);
        x.read(0, 0, 1);
        DUE.is("one that was IN: NEXT", x.tree(0, 4), 2);
        DUE.is("it is not touched", x.page(0, 1, 5), 0);
        x.read(0, 128, 1);
        DUE.is("3 and 4 came, 5 was IN: NEXT", x.tree(0, 4), 6);
        DUE.is("it is not touched", x.page(0, 5, 5), 0);
        DUE.lists(x, "nor moved", "", "4 3 2 0 5 1");
    }

    /** Page 0 brings 1, page 2 brings 3 to 5, page 6 brings 7: WINDOW 2, 4, 8 in one call. */
    private static void pageByPageOfOneRead() {
        DUE.about("each one's bytes taken, then what comes AHEAD of it");
        PageHold x = new PageHold(16, 8);
        x.truncate(0, 512);
        DUE.is("seven pages", x.read(0, 0, 448), 448);
        DUE.is("WINDOW", x.tree(0, 3), 8);
        DUE.is("NEXT", x.tree(0, 4), 8);
        DUE.lists(x, "in order", "", "7 6 5 4 3 2 1 0");
        for (int page = 0; page < 8; page++) {
            boolean again = page == 1 || page >= 3 && page <= 5;
            DUE.is("SEEN AGAIN " + page, x.page(0, page, 5), again ? 1 : 0);
        }
    }

    private static void nextOfOneReadAlone() {
        DUE.about("would have gone on (NEXT; 0 at first)");
        PageHold x = Scene.withPages(16, 8, 0, 1);
        DUE.is("0 and 1 are IN, 2 to 4 not", x.read(0, 0, 320), 320);
        // 2 is not NEXT, which is 0; 3 goes on behind it, and brings 4.
        DUE.is("WINDOW", x.tree(0, 3), 2);
        DUE.is("NEXT", x.tree(0, 4), 5);
        DUE.is("4 is SEEN AGAIN", x.page(0, 4, 5), 1);
        DUE.is("3 is not", x.page(0, 3, 5), 0);
    }

    private static void noFrameButTheFirst() {
        DUE.about("(by 3 others may go for it, also the first one)");
        PageHold x = Scene.withoutFrames(4);
        x.punch(0, 2, 1);
        x.truncate(1, 640);
        DUE.is("one frame", x.read(1, 0, 1), 1);
        DUE.is("the first one went", x.page(1, 0, 3), 1);
        DUE.is("NEXT", x.tree(1, 4), 2);
        DUE.is("one frame still", x.read(1, 128, 1), 1);
        DUE.is("WINDOW", x.tree(1, 3), 4);
        DUE.is("NEXT", x.tree(1, 4), 6);
        DUE.is("the last one alone is IN", x.next(1, 0, 0), 5);
        DUE.is("EVICTED", x.told(5), 5);
        // The first page is neither DIRTY nor PINNED, so that its frame at least can be taken.
        DUE.about("where there is no frame this ends");
        x.pin(1, 5, true);
        DUE.is("no frame for the first", x.read(1, 384, 1), NO_FRAME);
        DUE.is("WINDOW", x.tree(1, 3), 4);
        DUE.is("NEXT", x.tree(1, 4), 6);
        x.pin(1, 5, false);
        DUE.is("one for the first, so one for each", x.read(1, 384, 1), 1);
        DUE.is("WINDOW", x.tree(1, 3), 8);
        DUE.is("NEXT", x.tree(1, 4), 10);
        DUE.is("the last one alone is IN", x.next(1, 0, 0), 9);
    }
}
