/** States that many tests begin with, and all that an object shows of its state. */
final class Scene {
    private Scene() {
    }

    /** The first 8 blocks, which are all of the smallest disk. */
    static void failAll(PageHold x, boolean fails) {
        for (int block = 0; block < 8; block++) {
            x.fail(block, fails);
        }
    }

    /** All frames have DIRTY pages of file 0, 0 and on, that can not be written. */
    static PageHold withoutFrames(int frames) {
        PageHold x = new PageHold(frames, 8);
        failAll(x, true);
        for (int page = 0; page < frames; page++) {
            x.fill(0, 64 * page, 64, 1 + 3 * 64 * page);
        }
        return x;
    }

    /** File 0 has all its pages; some come in, in this order. */
    static PageHold withPages(int frames, int blocks, int... pages) {
        PageHold x = new PageHold(frames, blocks);
        x.truncate(0, 16384);
        bring(x, pages);
        return x;
    }

    /** Pages of file 0 are touched without anything ahead: they are pinned, and at once no more. */
    static void bring(PageHold x, int... pages) {
        for (int page : pages) {
            x.pin(0, page, true);
            x.pin(0, page, false);
        }
    }

    /** Pages of file 0 that are OUT without a shadow come in, are REFERENCED, then ACTIVE. */
    static void makeActive(PageHold x, int... pages) {
        for (int page : pages) {
            bring(x, page, page, page);
        }
    }

    /**
     * What is shown of all, of files 0, 1, 2 and 11, of pages 0 to 4 of files 0 and 1, of blocks 0
     * to 4, of HAND and the RECORD: few enough calls to have it twice of one object.
     */
    static int[] all(PageHold x, int frames) {
        int[] found = new int[142 + 2 * frames];
        int n = 0;
        for (int what = 0; what < 12; what++) {
            found[n++] = x.told(what);
        }
        for (int file : new int[] {0, 1, 2, 11}) {
            found[n++] = x.size(file);
            for (int what = 0; what < 6; what++) {
                found[n++] = x.tree(file, what);
            }
        }
        for (int k = 0; k < frames; k++) {
            found[n++] = x.listed(true, k);
            found[n++] = x.listed(false, k);
        }
        for (int i = 0; i < 10; i++) {
            for (int what = 0; what < 8; what++) {
                found[n++] = x.page(i % 2, i / 2, what);
            }
            found[n++] = x.disk(i / 2, 63 * (i % 2));
        }
        for (int i = 0; i < 6; i++) {
            found[n++] = x.hand(i);
            found[n++] = x.run(i / 3, i % 3);
        }
        return found;
    }
}
