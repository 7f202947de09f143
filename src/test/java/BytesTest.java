/** Promises 2 to 7: read, hand, write, fill, truncate, punch. */
public final class BytesTest {
    private static final int NONE = PageHold.NONE;
    private static final int BAD = PageHold.BAD;
    private static final int NO_FRAME = PageHold.NO_FRAME;
    private static final int[] NO_FILES = {-1, 12, 256, Integer.MIN_VALUE, Integer.MAX_VALUE};
    private static final Due DUE = new Due("BytesTest");

    public static void main(String[] args) {
        promise2Read();
        promise2WrongNumbers();
        promise2NoFrame();
        promise3Hand();
        promise4Write();
        promise4WrongNumbers();
        promise4NoFrame();
        promise5Fill();
        promise6Truncate();
        promise6CutOff();
        promise6NoFrame();
        promise7Punch();
        promise7WrongNumbers();
        DUE.end();
    }

    private static void promise2Read() {
        PageHold x = new PageHold(32, 64);
        DUE.is("of nothing", x.read(0, 0, 1024), 0);
        DUE.is("nothing is touched", x.told(0), 0);
        x.fill(0, 0, 1024, 0);
        x.fill(0, 1024, 100, 7);
        DUE.is("1", x.read(0, 0, 1), 1);
        DUE.is("1024 from within a page", x.read(0, 1, 1024), 1024);
        for (int i = 0; i < 1023; i += 7) {
            DUE.is("byte " + (i + 1), x.hand(i), 3 * (i + 1) & 255);
        }
        DUE.is("byte 1024", x.hand(1023), 7);
        DUE.is("no more", x.hand(1024), NONE);
        DUE.is("as far as the size", x.read(0, 1000, 1024), 124);
        DUE.is("the last one", x.hand(123), 7 + 3 * 99 & 255);
        DUE.is("the last alone", x.read(0, 1123, 1024), 1);
        int in = x.told(0);
        DUE.is("at the size", x.read(0, 1124, 1), 0);
        DUE.is("within the last page, behind the size", x.read(0, 1130, 1), 0);
        DUE.is("far behind", x.read(0, Integer.MAX_VALUE, 1024), 0);
        DUE.is("nothing is touched there", x.told(0), in);
        x.truncate(1, 16384);
        DUE.is("a hole up to the last byte", x.read(1, 16380, 1024), 4);
        DUE.is("is 0", x.hand(3), 0);
        DUE.is("has a frame", x.page(1, 255, 0) >= 0, true);
        DUE.is("has no block", x.page(1, 255, 1), NONE);
    }

    private static void promise2WrongNumbers() {
        PageHold x = new PageHold(4, 8);
        x.fill(0, 0, 100, 1);
        x.read(0, 0, 3);
        for (int file : NO_FILES) {
            DUE.is("file " + file, x.read(file, 0, 1), BAD);
        }
        DUE.is("at -1", x.read(0, -1, 1), BAD);
        DUE.is("at least", x.read(0, Integer.MIN_VALUE, 1), BAD);
        DUE.is("n 0", x.read(0, 0, 0), BAD);
        DUE.is("n -1", x.read(0, 0, -1), BAD);
        DUE.is("n 1025", x.read(0, 0, 1025), BAD);
        DUE.is("n most", x.read(0, 0, Integer.MAX_VALUE), BAD);
        DUE.is("n before the size", x.read(0, 500, 0), BAD);
        DUE.is("HAND stays", x.hand(2), 7);
        DUE.is("the file is there", x.read(11, 0, 1), 0);
    }

    private static void promise2NoFrame() {
        PageHold x = Scene.withoutFrames(4);
        x.read(0, 0, 2);
        x.truncate(1, 300);
        DUE.is("the first page", x.read(1, 0, 10), NO_FRAME);
        DUE.is("HAND stays", x.hand(1), 4);
        x.truncate(0, 320);
        DUE.is("a later page", x.read(0, 130, 190), 126);
        DUE.is("the last one", x.hand(125), 1 + 3 * 255 & 255);
        DUE.is("no more", x.hand(126), NONE);
    }

    private static void promise3Hand() {
        PageHold x = new PageHold(4, 8);
        DUE.is("at first", x.hand(0), NONE);
        x.fill(0, 0, 3, 254);
        DUE.is("a fill is not in HAND", x.hand(0), NONE);
        x.read(0, 0, 3);
        DUE.is("0", x.hand(0), 254);
        DUE.is("1", x.hand(1), 1);
        DUE.is("2", x.hand(2), 4);
        DUE.is("3", x.hand(3), NONE);
        DUE.is("-1", x.hand(-1), NONE);
        DUE.is("1024", x.hand(1024), NONE);
        DUE.is("least", x.hand(Integer.MIN_VALUE), NONE);
        DUE.is("most", x.hand(Integer.MAX_VALUE), NONE);
        x.write(0, 0, 9, 1);
        DUE.is("as it was read", x.hand(0), 254);
        x.read(0, 1, 1);
        DUE.is("the latest", x.hand(0), 1);
        DUE.is("and no others", x.hand(1), NONE);
        x.read(0, 3, 1);
        DUE.is("none were read", x.hand(0), NONE);
    }

    private static void promise4Write() {
        PageHold x = new PageHold(8, 8);
        DUE.is("8", x.write(0, 60, 0x8877665544332211L, 8), 8);
        DUE.is("size", x.size(0), 68);
        DUE.is("read", x.read(0, 59, 100), 9);
        int[] bytes = {0, 0x11, 0x22, 0x33, 0x44, 0x55, 0x66, 0x77, 0x88};
        for (int i = 0; i < 9; i++) {
            DUE.is("byte " + i, x.hand(i), bytes[i]);
        }
        DUE.is("both are DIRTY", x.told(2), 2);
        DUE.is("nothing came ahead", x.told(0), 2);
        DUE.is("WINDOW", x.tree(0, 3), 1);
        DUE.is("the lowest 2", x.write(0, 61, 0xAABBCCL, 2), 2);
        DUE.is("size stays", x.size(0), 68);
        x.read(0, 60, 4);
        DUE.is("kept", x.hand(0), 0x11);
        DUE.is("lowest first", x.hand(1), 0xCC);
        DUE.is("then the next", x.hand(2), 0xBB);
        DUE.is("kept behind", x.hand(3), 0x44);
        DUE.is("at the end", x.write(11, 16376, -1, 8), 8);
        DUE.is("size", x.size(11), 16384);
        DUE.is("the last byte", x.write(11, 16383, 5, 1), 1);
        DUE.is("one page", x.tree(11, 2), 1);
        x.sync(0);
        DUE.is("with what it had", x.write(0, 60, 0x11, 1), 1);
        DUE.is("is DIRTY", x.page(0, 0, 2), 0);
        DUE.is("is touched", x.page(0, 0, 5), 1);
        x.sync(0);
        x.drop();
        int reads = x.told(6);
        x.write(0, 10, 3, 1);
        DUE.is("its block is READ", x.told(6), reads + 1);
        x.read(0, 61, 1);
        DUE.is("for what is left of it", x.hand(0), 0xCC);
    }

    private static void promise4WrongNumbers() {
        PageHold x = new PageHold(4, 8);
        for (int file : NO_FILES) {
            DUE.is("write, file " + file, x.write(file, 0, 0, 1), BAD);
            DUE.is("fill, file " + file, x.fill(file, 0, 1, 0), BAD);
        }
        int[][] places = {{-1, 1}, {16384, 1}, {16383, 2}, {16377, 8}, {0, 0}, {0, -1}, {0, 9},
            {Integer.MAX_VALUE, 1}, {Integer.MAX_VALUE, 8}, {Integer.MIN_VALUE, 1},
            {0, Integer.MAX_VALUE}, {Integer.MAX_VALUE, Integer.MAX_VALUE}};
        for (int[] place : places) {
            String call = "at " + place[0] + " n " + place[1];
            DUE.is("write, " + call, x.write(0, place[0], 1, place[1]), BAD);
            if (place[1] != 9) {
                DUE.is("fill, " + call, x.fill(0, place[0], place[1], 1), BAD);
            }
        }
        DUE.is("fill, n 1025", x.fill(0, 0, 1025, 1), BAD);
        DUE.is("fill, 15361 and 1024", x.fill(0, 15361, 1024, 1), BAD);
        DUE.is("nothing is done", x.told(0), 0);
        DUE.is("no size", x.size(0), 0);
    }

    private static void promise4NoFrame() {
        PageHold x = Scene.withoutFrames(4);
        DUE.is("the first page", x.write(1, 0, 1, 1), NO_FRAME);
        DUE.is("no size", x.size(1), 0);
        DUE.is("a later page", x.write(0, 252, -1, 8), 4);
        DUE.is("size", x.size(0), 256);
        DUE.is("fill, the first page", x.fill(1, 0, 100, 1), NO_FRAME);
        DUE.is("fill, a later page", x.fill(0, 200, 1000, 1), 56);
        x.truncate(0, 320);
        x.read(0, 255, 64);
        DUE.is("written before", x.hand(0), 1 + 3 * 55 & 255);
        // The pages are DIRTY too many: behind what was written before they go to the disk.
        x = Scene.withoutFrames(4);
        Scene.failAll(x, false);
        x.pin(0, 0, true);
        x.pin(0, 1, true);
        Scene.failAll(x, true);
        x.fail(0, false);
        DUE.is("cut short", x.write(0, 252, -1, 8), 4);
        DUE.is("and then the oldest", x.page(0, 0, 2), NONE);
        DUE.is("the others fail", x.told(2), 3);
    }

    private static void promise5Fill() {
        PageHold x = new PageHold(16, 32);
        DUE.is("1024", x.fill(0, 100, 1024, Integer.MAX_VALUE), 1024);
        DUE.is("size", x.size(0), 1124);
        x.read(0, 99, 1024);
        DUE.is("before it", x.hand(0), 0);
        for (int i = 0; i < 1023; i += 7) {
            DUE.is("byte " + i, x.hand(i + 1), Integer.MAX_VALUE + 3 * i & 255);
        }
        DUE.is("at the end", x.fill(1, 15360, 1024, -1), 1024);
        DUE.is("size", x.size(1), 16384);
        x.read(1, 16382, 2);
        DUE.is("the last byte", x.hand(1), -1 + 3 * 1023 & 255);
        DUE.is("1", x.fill(2, 0, 1, -200), 1);
        x.read(2, 0, 1);
        DUE.is("the lowest eight bits", x.hand(0), -200 & 255);
        DUE.is("nothing came ahead", x.tree(1, 3), 1);
    }

    private static void promise6Truncate() {
        PageHold x = new PageHold(16, 16);
        DUE.is("from 0", x.truncate(0, 16384), 0);
        DUE.is("nothing comes in", x.told(0), 0);
        DUE.is("to the same", x.truncate(0, 16384), 16384);
        DUE.is("to 0", x.truncate(0, 0), 16384);
        for (int file : NO_FILES) {
            DUE.is("file " + file, x.truncate(file, 0), BAD);
        }
        DUE.is("below 0", x.truncate(0, -1), BAD);
        DUE.is("too much", x.truncate(0, 16385), BAD);
        x.fill(0, 0, 320, 1);
        x.sync(0);
        x.fill(0, 128, 64, 9);
        x.pin(0, 3, true);
        x.pin(0, 4, true);
        x.pin(0, 4, false);
        x.drop();
        DUE.is("shadow of page 4", x.page(0, 4, 3) > 0, true);
        int writes = x.told(7);
        DUE.is("to two pages", x.truncate(0, 128), 320);
        DUE.is("nothing is written", x.told(7), writes);
        DUE.is("DIRTY", x.told(2), 0);
        DUE.is("PINNED", x.told(3), 0);
        DUE.is("IN", x.told(0), 0);
        DUE.is("free blocks", x.told(8), 14);
        for (int page = 2; page < 5; page++) {
            DUE.is("block", x.page(0, page, 1), NONE);
            DUE.is("shadow", x.page(0, page, 3), NONE);
        }
        DUE.is("the shadows of those that are left", x.told(4), 2);
        DUE.is("they have their blocks", x.page(0, 1, 1), 1);
        x.truncate(0, 320);
        x.read(0, 127, 2);
        DUE.is("what is left", x.hand(0), 1 + 3 * 127 & 255);
        DUE.is("no bytes", x.hand(1), 0);
        DUE.is("not EVICTED, as 0, 1 and 4 were", x.told(5), 3);
    }

    private static void promise6CutOff() {
        PageHold x = new PageHold(8, 16);
        x.fill(0, 0, 128, 1);
        x.sync(0);
        x.tick(2);
        DUE.is("within an IN page", x.truncate(0, 70), 128);
        DUE.is("DIRTY since", x.page(0, 1, 2), 2);
        DUE.is("touched", x.page(0, 1, 5), 1);
        x.truncate(0, 128);
        x.read(0, 64, 64);
        DUE.is("left", x.hand(5), 1 + 3 * 69 & 255);
        DUE.is("cut off", x.hand(6), 0);
        DUE.is("cut off, too", x.hand(63), 0);
        x.sync(0);
        x.drop();
        x.tick(1);
        DUE.is("within an OUT page with a block", x.truncate(0, 1), 128);
        DUE.is("came in", x.page(0, 0, 0), 0);
        DUE.is("DIRTY since", x.page(0, 0, 2), 3);
        x.truncate(0, 10);
        DUE.is("again, DIRTY since then still", x.truncate(0, 2), 10);
        DUE.is("since", x.page(0, 0, 2), 3);
        x.sync(0);
        DUE.is("to the same", x.truncate(0, 2), 2);
        DUE.is("nothing is cut off", x.told(2), 0);
        DUE.is("to a greater one", x.truncate(0, 3), 2);
        DUE.is("nothing is cut off", x.told(2), 0);
        x.truncate(1, 1000);
        DUE.is("within a hole", x.truncate(1, 100), 1000);
        DUE.is("stays OUT", x.tree(1, 2), 0);
        x.read(1, 64, 1);
        x.drop();
        int shadows = x.told(4);
        DUE.is("within a hole with a shadow", x.truncate(1, 90), 100);
        DUE.is("stays OUT, too", x.next(1, 0, 0), NONE);
        DUE.is("with its shadow", x.told(4), shadows);
        x.read(1, 64, 1);
        DUE.is("within a hole that is IN", x.truncate(1, 80), 90);
        DUE.is("is DIRTY", x.page(1, 1, 2), 3);
    }

    private static void promise6NoFrame() {
        PageHold x = new PageHold(4, 8);
        x.fill(1, 0, 128, 1);
        x.sync(1);
        x.drop();
        Scene.failAll(x, true);
        x.fill(0, 0, 256, 1);
        DUE.is("no frame", x.truncate(1, 10), NO_FRAME);
        DUE.is("all else is done: size", x.size(1), 10);
        DUE.is("all else is done: block", x.page(1, 1, 1), NONE);
        DUE.is("its block stays", x.page(1, 0, 1), 0);
        DUE.is("no page within it", x.truncate(1, 0), 10);
        DUE.is("no block", x.page(1, 0, 1), NONE);
    }

    private static void promise7Punch() {
        PageHold x = new PageHold(8, 16);
        x.fill(0, 0, 320, 1);
        x.sync(0);
        x.drop();
        x.read(0, 0, 1);
        x.truncate(0, 640);
        x.pin(0, 6, true);
        DUE.is("IN with a block, OUT with a block, IN, hole", x.punch(0, 1, 7), 5);
        DUE.is("size stays", x.size(0), 640);
        DUE.is("IN", x.told(0), 1);
        DUE.is("shadows", x.told(4), 0);
        DUE.is("PINNED", x.told(3), 0);
        DUE.is("free blocks", x.told(8), 15);
        x.read(0, 64, 1);
        DUE.is("no bytes", x.hand(0), 0);
        DUE.is("the bytes are on the disk yet", x.disk(1, 0), 1 + 3 * 64 & 255);
        x.read(0, 0, 1);
        DUE.is("the others stay", x.hand(0), 1);
        x.write(0, 64, 5, 1);
        DUE.is("a DIRTY one is lost", x.punch(0, 1, 1), 1);
        DUE.is("DIRTY", x.told(2), 0);
        x.write(3, 16383, 5, 1);
        DUE.is("as far as 255", x.punch(3, 255, 256), 1);
        DUE.is("size stays", x.size(3), 16384);
        x.write(3, 16383, 5, 1);
        x.write(3, 0, 5, 1);
        DUE.is("all", x.punch(3, 0, 256), 2);
        DUE.is("behind the size", x.punch(5, 10, 10), 0);
        DUE.is("none of another file", x.page(0, 0, 1), 0);
    }

    private static void promise7WrongNumbers() {
        PageHold x = new PageHold(8, 16);
        x.fill(0, 0, 64, 1);
        for (int file : NO_FILES) {
            DUE.is("file " + file, x.punch(file, 0, 1), BAD);
        }
        DUE.is("page -1", x.punch(0, -1, 2), BAD);
        DUE.is("page 256", x.punch(0, 256, 1), BAD);
        DUE.is("n 0", x.punch(0, 0, 0), BAD);
        DUE.is("n 257", x.punch(0, 0, 257), BAD);
        DUE.is("n most", x.punch(0, 255, Integer.MAX_VALUE), BAD);
        DUE.is("nothing is done", x.told(2), 1);
    }
}
