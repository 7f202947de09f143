/**
 * Promise 1: how many frames and blocks a new object has, and that all else is as at first. And how
 * long it may be used: its 512th call is answered as the first.
 */
public final class NewObjectTest {
    private static final Due DUE = new Due("NewObjectTest");

    public static void main(String[] args) {
        for (int frames : new int[] {4, 5, 16, 63, 64}) {
            framesAre(new PageHold(frames, 512), frames);
        }
        for (int frames : new int[] {3, 65, 0, -1, Integer.MIN_VALUE, Integer.MAX_VALUE}) {
            framesAre(new PageHold(frames, 512), 16);
        }
        for (int blocks : new int[] {8, 9, 128, 511, 512}) {
            blocksAre(new PageHold(4, blocks), blocks);
        }
        for (int blocks : new int[] {7, 513, 0, -1, Integer.MIN_VALUE, Integer.MAX_VALUE}) {
            blocksAre(new PageHold(64, blocks), 128);
        }
        allIsAsAtFirst(new PageHold(8, 16));
        for (int block = 0; block < 512; block += 7) {
            isEmpty(new PageHold(8, 512), block);
        }
        isUsedFor512Calls(new PageHold(4, 8));
        DUE.end();
    }

    /** As many pages are IN as there are frames when one more page than these was read. */
    private static void framesAre(PageHold x, int frames) {
        x.truncate(0, 16384);
        for (int page = 0; page <= frames; page++) {
            DUE.is("frames " + frames + ": read(page " + page + ")", x.read(0, 64 * page, 1), 1);
        }
        DUE.is("frames " + frames + ": told(0)", x.told(0), frames);
        DUE.is("frames " + frames + ": told(5) > 0", x.told(5) > 0, true);
        x.drop();
        DUE.is("frames " + frames + ": told(4)", x.told(4), frames);
    }

    private static void blocksAre(PageHold x, int blocks) {
        DUE.is("blocks " + blocks + ": told(8)", x.told(8), blocks);
        DUE.is("blocks " + blocks + ": disk(last, 63)", x.disk(blocks - 1, 63), 0);
        DUE.is("blocks " + blocks + ": disk(behind, 0)", x.disk(blocks, 0), PageHold.BAD);
        DUE.is("blocks " + blocks + ": fail(last)", x.fail(blocks - 1, true), true);
        DUE.is("blocks " + blocks + ": fail(behind)", x.fail(blocks, true), false);
    }

    private static void isEmpty(PageHold x, int block) {
        for (int i = 0; i < 64; i++) {
            DUE.is("disk(" + block + ", " + i + ")", x.disk(block, i), 0);
        }
    }

    private static void allIsAsAtFirst(PageHold x) {
        for (int what = 0; what <= 11; what++) {
            DUE.is("told(" + what + ")", x.told(what), what == 8 ? 16 : 0);
        }
        for (int file = 0; file < 12; file++) {
            DUE.is("size", x.size(file), 0);
            for (int what = 0; what <= 5; what++) {
                DUE.is("tree(" + what + ")", x.tree(file, what), what == 3 ? 1 : 0);
            }
            for (int what = 0; what <= 7; what++) {
                DUE.is("page(" + what + ")", x.page(file, 255, what), what < 5 ? -1 : 0);
            }
        }
        for (int block = 0; block < 16; block++) {
            DUE.is("fail(block, false)", x.fail(block, false), false);
        }
        DUE.is("hand(0)", x.hand(0), PageHold.NONE);
        DUE.is("run(0, 0)", x.run(0, 0), PageHold.NONE);
        DUE.is("listed(true, 0)", x.listed(true, 0), PageHold.NONE);
        DUE.is("listed(false, 0)", x.listed(false, 0), PageHold.NONE);
    }

    /** Four calls a turn; page 0 is written, cut off and written again, and goes to the disk. */
    private static void isUsedFor512Calls(PageHold x) {
        DUE.about("An object is used for at most 512 calls after it has been made");
        for (int turn = 1; turn <= 128; turn++) {
            int size = 1 + turn % 64;
            DUE.is("turn " + turn + ": fill", x.fill(0, 0, 64, turn), 64);
            DUE.is("turn " + turn + ": truncate", x.truncate(0, size), 64);
            DUE.is("turn " + turn + ": sync", x.sync(0), 1);
            DUE.is("turn " + turn + ": disk", x.disk(0, size - 1), turn + 3 * (size - 1) & 255);
        }
    }
}
