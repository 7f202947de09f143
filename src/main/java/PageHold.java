import java.util.Arrays;

/**
 * A cache of pages between files and a disk. ../shared/DOC.md says what every call does; words in
 * capitals are that document's own.
 *
 * <p>A page is known inside by its id, 256 times its file and the page, so that rising ids go by
 * files, then pages. All rows are made with the object and used again: no call makes any.
 */
public final class PageHold {
    public static final int NONE = -1;
    public static final int BAD = -2;
    public static final int NO_FRAME = -3;
    public static final int NO_ROOM = -4;
    public static final int DEFECT = -5;

    private static final int FILES = 12;
    private static final int PAGES = 256;
    private static final int ALL_PAGES = FILES * PAGES;
    private static final int PAGE_BYTES = 64;
    private static final int FILE_BYTES = PAGES * PAGE_BYTES;
    private static final int CALL_BYTES = 1024;
    private static final int LONG_BYTES = 8;
    private static final int MOST_SECONDS = 1000;
    private static final int WIDEST_WINDOW = 8;
    private static final int OLD_SECONDS = 5;
    private static final int WRITES_A_SECOND = 4;
    private static final int MOST_HEIGHT = 4;
    private static final int INACTIVE = 0;
    private static final int ACTIVE = 1;
    private static final int READ_RUN = 0;
    private static final int WRITE_RUN = 1;

    private final int[] sizes = new int[FILES];
    private final int[] windows = new int[FILES];
    private final int[] nexts = new int[FILES];
    private final int[] errors = new int[FILES];
    private final Frames frames;
    private final Lists lists;
    private final Shadows shadows;
    private final Blocks blocks;
    private final Runs runs = new Runs();
    private final byte[] coming = new byte[CALL_BYTES];
    private final byte[] inHand = new byte[CALL_BYTES];
    private int handLength = 0;
    private int time = 0;

    public PageHold(int frames, int blocks) {
        int frameCount = frames >= 4 && frames <= 64 ? frames : 16;
        int blockCount = blocks >= 8 && blocks <= 512 ? blocks : 128;
        this.frames = new Frames(frameCount);
        this.lists = new Lists(frameCount);
        this.shadows = new Shadows(frameCount);
        this.blocks = new Blocks(blockCount);
        Arrays.fill(windows, 1);
    }

    // ---- bytes

    public int read(int file, int at, int n) {
        if (!isFile(file) || at < 0 || n < 1 || n > CALL_BYTES) {
            return BAD;
        }
        if (at >= sizes[file]) {
            handLength = 0;
            return 0;
        }
        runs.beginCall();
        int end = Math.min(sizes[file], at + n);
        int done = 0;
        for (int page = at / PAGE_BYTES; page * PAGE_BYTES < end; page++) {
            boolean wasOut = !isIn(idOf(file, page));
            int frame = touch(idOf(file, page));
            if (frame == NONE) {
                break;
            }
            int part = Math.min(end, (page + 1) * PAGE_BYTES) - at - done;
            frames.copyOut(frame, (at + done) % PAGE_BYTES, inHand, done, part);
            done += part;
            if (wasOut) {
                goAhead(file, page);
            }
        }
        if (done == 0) {
            return NO_FRAME;
        }
        handLength = done;
        return done;
    }

    public int hand(int i) {
        return i >= 0 && i < handLength ? inHand[i] & 255 : NONE;
    }

    public int write(int file, int at, long row, int n) {
        if (!isPlace(file, at, n, LONG_BYTES)) {
            return BAD;
        }
        for (int i = 0; i < n; i++) {
            coming[i] = (byte) (row >>> (8 * i));
        }
        return writeComing(file, at, n);
    }

    public int fill(int file, int at, int n, int v) {
        if (!isPlace(file, at, n, CALL_BYTES)) {
            return BAD;
        }
        for (int i = 0; i < n; i++) {
            coming[i] = (byte) (v + 3 * i);
        }
        return writeComing(file, at, n);
    }

    public int truncate(int file, int size) {
        if (!isFile(file) || size < 0 || size > FILE_BYTES) {
            return BAD;
        }
        runs.beginCall();
        int before = sizes[file];
        sizes[file] = size;
        if (size >= before) {
            return before;
        }
        for (int page = pagesOf(file); page < PAGES; page++) {
            forget(idOf(file, page));
        }
        return size % PAGE_BYTES == 0 || cutOff(file, size) ? before : NO_FRAME;
    }

    public int punch(int file, int page, int n) {
        if (!isPage(file, page) || n < 1 || n > PAGES) {
            return BAD;
        }
        int holes = 0;
        int end = Math.min(PAGES, page + n);
        for (int p = page; p < end; p++) {
            int id = idOf(file, p);
            if (hasBytes(id)) {
                holes++;
            }
            forget(id);
        }
        return holes;
    }

    // ---- to the disk

    public int sync(int file) {
        if (!isFile(file)) {
            return BAD;
        }
        runs.beginCall();
        int written = 0;
        for (int page = 0; page < PAGES; page++) {
            int frame = frames.frameOf(idOf(file, page));
            if (isDirty(frame) && writeOut(frame)) {
                written++;
            }
        }
        int error = errors[file];
        errors[file] = 0;
        return error != 0 ? error : written;
    }

    public int syncAll() {
        runs.beginCall();
        for (int id = 0; id < ALL_PAGES; id++) {
            if (isDirty(frames.frameOf(id)) && blocks.blockFor(id) == NONE) {
                setError(id / PAGES, NO_ROOM);
            }
        }
        int written = 0;
        for (int block = 0; block < blocks.count; block++) {
            int id = blocks.ownerOf(block);
            int frame = id == NONE ? NONE : frames.frameOf(id);
            if (isDirty(frame) && writeOut(frame)) {
                written++;
            }
        }
        return written;
    }

    public int tick(int seconds) {
        if (seconds < 0 || seconds > MOST_SECONDS) {
            return BAD;
        }
        runs.beginCall();
        int written = 0;
        for (int second = 0; second < seconds; second++) {
            time++;
            written += writeOld();
        }
        return written;
    }

    public int drop() {
        int dropped = 0;
        for (int id = 0; id < ALL_PAGES; id++) {
            int frame = frames.frameOf(id);
            if (frame != NONE && !frames.isDirty(frame) && !frames.isPinned(frame)) {
                evict(frame);
                dropped++;
            }
        }
        return dropped;
    }

    public int crash() {
        int lost = frames.dirty;
        for (int frame = 0; frame < frames.count; frame++) {
            setFree(frame);
        }
        shadows.clear();
        Arrays.fill(windows, 1);
        Arrays.fill(nexts, 0);
        Arrays.fill(errors, 0);
        handLength = 0;
        return lost;
    }

    public boolean fail(int block, boolean fails) {
        return blocks.has(block) && blocks.setFailing(block, fails);
    }

    public boolean pin(int file, int page, boolean pinned) {
        if (!isPage(file, page)) {
            return false;
        }
        int frame = frames.frameOf(idOf(file, page));
        boolean was = frame != NONE && frames.isPinned(frame);
        if (!pinned) {
            if (was) {
                frames.setPinned(frame, false);
            }
            return was;
        }
        if (page >= pagesOf(file) || (!was && frames.pins >= frames.count / 2)) {
            return false;
        }
        runs.beginCall();
        frame = touch(idOf(file, page));
        if (frame != NONE) {
            frames.setPinned(frame, true);
        }
        return was;
    }

    // ---- what there is

    public int size(int file) {
        return isFile(file) ? sizes[file] : BAD;
    }

    public int page(int file, int page, int what) {
        if (!isPage(file, page)) {
            return BAD;
        }
        int id = idOf(file, page);
        int frame = frames.frameOf(id);
        boolean in = frame != NONE;
        switch (what) {
            case 0:
                return frame;
            case 1:
                return blocks.blockOf(id);
            case 2:
                return in ? frames.sinceOf(frame) : NONE;
            case 3:
                return shadows.shadowOf(id);
            case 4:
                return in ? lists.placeOf(frame) : NONE;
            case 5:
                return in && frames.isReferenced(frame) ? 1 : 0;
            case 6:
                return in && frames.isPinned(frame) ? 1 : 0;
            case 7:
                return in && lists.listOf(frame) == ACTIVE ? 1 : 0;
            default:
                return BAD;
        }
    }

    public int next(int file, int page, int mark) {
        if (!isPage(file, page) || mark < 0 || mark > 4) {
            return BAD;
        }
        for (int p = page; p < PAGES; p++) {
            if (hasMark(idOf(file, p), mark)) {
                return p;
            }
        }
        return NONE;
    }

    public int tree(int file, int what) {
        if (!isFile(file)) {
            return BAD;
        }
        switch (what) {
            case 0:
                return heightOf(file);
            case 1:
                return nodesOf(file);
            case 2:
                return partsOf(file, 0);
            case 3:
                return windows[file];
            case 4:
                return nexts[file];
            case 5:
                return errors[file];
            default:
                return BAD;
        }
    }

    public int listed(boolean active, int k) {
        int frame = lists.frameAt(active ? ACTIVE : INACTIVE, k);
        return frame == NONE ? NONE : frames.pageOf(frame);
    }

    public int disk(int block, int i) {
        return blocks.has(block) && i >= 0 && i < PAGE_BYTES ? blocks.byteAt(block, i) : BAD;
    }

    public int run(int k, int what) {
        if (what < 0 || what > 2) {
            return BAD;
        }
        return k >= 0 && k < runs.count ? runs.tell(k, what) : NONE;
    }

    public int told(int what) {
        switch (what) {
            case 0:
                return frames.in;
            case 1:
                return lists.lengthOf(ACTIVE);
            case 2:
                return frames.dirty;
            case 3:
                return frames.pins;
            case 4:
                return shadows.count;
            case 5:
                return shadows.evicted;
            case 6:
                return blocks.reads;
            case 7:
                return blocks.writes;
            case 8:
                return blocks.free;
            case 9:
                return time;
            case 10:
                return runs.count;
            case 11:
                return filesWithError();
            default:
                return BAD;
        }
    }

    // ---- numbers that a call was given

    private static boolean isFile(int file) {
        return file >= 0 && file < FILES;
    }

    private static boolean isPage(int file, int page) {
        return isFile(file) && page >= 0 && page < PAGES;
    }

    private static boolean isPlace(int file, int at, int n, int most) {
        return isFile(file) && n >= 1 && n <= most && at >= 0 && at <= FILE_BYTES - n;
    }

    private static int idOf(int file, int page) {
        return file * PAGES + page;
    }

    /** How many pages have a byte of the file: they are the first ones. */
    private int pagesOf(int file) {
        return (sizes[file] + PAGE_BYTES - 1) / PAGE_BYTES;
    }

    // ---- touching

    /** The page's frame behind its touch; NONE when there is no frame for it. */
    private int touch(int id) {
        int frame = frames.frameOf(id);
        if (frame == NONE) {
            return bringIn(id);
        }
        if (!frames.isReferenced(frame)) {
            frames.setReferenced(frame, true);
        } else if (lists.listOf(frame) == INACTIVE) {
            frames.setReferenced(frame, false);
            lists.toFront(ACTIVE, frame);
        }
        return frame;
    }

    /** The frame that a page which was OUT has now; NONE when there is no frame for it. */
    private int bringIn(int id) {
        int frame = frames.leastFree();
        if (frame == NONE) {
            evenOut();
            frame = inactiveToEvict();
            frame = frame == NONE ? activeToEvict() : frame;
            if (frame == NONE) {
                return NONE;
            }
            evict(frame);
        }
        frames.give(frame, id);
        int block = blocks.blockOf(id);
        if (block != NONE) {
            blocks.load(block, frames.bytes, frame * PAGE_BYTES);
            runs.note(READ_RUN, block);
        }
        boolean soon = shadows.isSoon(id, lists.lengthOf(ACTIVE));
        shadows.remove(id);
        lists.toFront(soon ? ACTIVE : INACTIVE, frame);
        return frame;
    }

    /** What comes AHEAD of a page that read() brought in. */
    private void goAhead(int file, int page) {
        boolean wentOn = page == nexts[file];
        windows[file] = wentOn ? Math.min(WIDEST_WINDOW, 2 * windows[file]) : 1;
        int end = Math.min(page + windows[file], pagesOf(file));
        int next = page + 1;
        while (next < end && (isIn(idOf(file, next)) || bringIn(idOf(file, next)) != NONE)) {
            next++;
        }
        nexts[file] = next;
    }

    private boolean isIn(int id) {
        return frames.frameOf(id) != NONE;
    }

    // ---- frames taken back

    /** The end of ACTIVE goes to INACTIVE; a page is passed over once, for being REFERENCED. */
    private void evenOut() {
        int steps = 2 * frames.count;
        for (int i = 0; i < steps && lists.lengthOf(ACTIVE) > lists.lengthOf(INACTIVE); i++) {
            int frame = lists.lastOf(ACTIVE);
            if (frame == NONE) {
                return;
            }
            lists.toFront(frames.isReferenced(frame) ? ACTIVE : INACTIVE, frame);
            frames.setReferenced(frame, false);
        }
    }

    /** The frame of the INACTIVE page that is to go; NONE when none can. */
    private int inactiveToEvict() {
        int looks = 2 * frames.count;
        int frame = lists.lastOf(INACTIVE);
        for (int i = 0; i < looks && frame != NONE; i++) {
            if (frames.isPinned(frame)) {
                lists.toFront(INACTIVE, frame);
            } else if (frames.isReferenced(frame)) {
                frames.setReferenced(frame, false);
                lists.toFront(ACTIVE, frame);
            } else if (frames.isDirty(frame) && !writeOut(frame)) {
                lists.toFront(INACTIVE, frame);
            } else {
                return frame;
            }
            frame = lists.lastOf(INACTIVE);
        }
        return NONE;
    }

    /** The frame of the ACTIVE page that is to go, none of them moving; NONE when none can. */
    private int activeToEvict() {
        int frame = lists.lastOf(ACTIVE);
        for (int i = 0; i < frames.count && frame != NONE; i++) {
            if (!frames.isPinned(frame) && (!frames.isDirty(frame) || writeOut(frame))) {
                return frame;
            }
            frame = lists.nearerFront(frame);
        }
        return NONE;
    }

    private void evict(int frame) {
        int id = frames.pageOf(frame);
        setFree(frame);
        if (id != NONE) {
            shadows.add(id);
        }
    }

    private void setFree(int frame) {
        lists.takeOff(frame);
        frames.release(frame);
    }

    // ---- holes

    private boolean hasBytes(int id) {
        return isIn(id) || blocks.blockOf(id) != NONE;
    }

    private void forget(int id) {
        int frame = frames.frameOf(id);
        if (frame != NONE) {
            setFree(frame);
        }
        shadows.remove(id);
        blocks.takeFrom(id);
    }

    /** The page that the size lies within loses what is behind it; false when it has no frame. */
    private boolean cutOff(int file, int size) {
        int id = idOf(file, size / PAGE_BYTES);
        if (!hasBytes(id)) {
            return true;
        }
        int frame = touch(id);
        if (frame == NONE) {
            return false;
        }
        frames.clearFrom(frame, size % PAGE_BYTES);
        frames.setDirty(frame, time);
        return true;
    }

    // ---- what is dirty

    /** Writes the first n coming bytes to a place that isPlace() has looked at. */
    private int writeComing(int file, int at, int n) {
        runs.beginCall();
        int end = at + n;
        int done = 0;
        for (int page = at / PAGE_BYTES; page * PAGE_BYTES < end; page++) {
            int frame = touch(idOf(file, page));
            if (frame == NONE) {
                break;
            }
            int part = Math.min(end, (page + 1) * PAGE_BYTES) - at - done;
            frames.copyIn(frame, (at + done) % PAGE_BYTES, coming, done, part);
            frames.setDirty(frame, time);
            done += part;
            sizes[file] = Math.max(sizes[file], at + done);
        }
        if (done == 0) {
            return NO_FRAME;
        }
        writeTooMany();
        return done;
    }

    private void writeTooMany() {
        if (frames.dirty <= frames.count / 2) {
            return;
        }
        int least = frames.count / 4;
        int frame = frames.oldestBehind(NONE);
        for (int i = 0; i < frames.count && frame != NONE && frames.dirty > least; i++) {
            // Its age goes when it is written.
            long age = frames.ageOf(frame);
            writeOut(frame);
            frame = frames.oldestBehind(age);
        }
    }

    private int writeOld() {
        int written = 0;
        int frame = frames.oldestBehind(NONE);
        for (int i = 0; i < WRITES_A_SECOND && isOld(frame); i++) {
            long age = frames.ageOf(frame);
            if (writeOut(frame)) {
                written++;
            }
            frame = frames.oldestBehind(age);
        }
        return written;
    }

    private boolean isOld(int frame) {
        return isDirty(frame) && time - frames.sinceOf(frame) >= OLD_SECONDS;
    }

    private boolean isDirty(int frame) {
        return frame != NONE && frames.isDirty(frame);
    }

    /** WRITTEN: whether the page went to its block; if not, its file has an ERROR. */
    private boolean writeOut(int frame) {
        int id = frames.pageOf(frame);
        if (id == NONE) {
            return false;
        }
        int file = id / PAGES;
        int block = blocks.blockFor(id);
        if (block == NONE || blocks.isFailing(block)) {
            setError(file, block == NONE ? NO_ROOM : DEFECT);
            return false;
        }
        int length = sizes[file] - id % PAGES * PAGE_BYTES;
        blocks.save(block, frames.bytes, frame * PAGE_BYTES, length);
        runs.note(WRITE_RUN, block);
        frames.setClean(frame);
        return true;
    }

    private void setError(int file, int error) {
        if (errors[file] == 0) {
            errors[file] = error;
        }
    }

    private int filesWithError() {
        int found = 0;
        for (int file = 0; file < FILES; file++) {
            if (errors[file] != 0) {
                found++;
            }
        }
        return found;
    }

    // ---- the tree

    private boolean hasMark(int id, int mark) {
        int frame = frames.frameOf(id);
        switch (mark) {
            case 0:
                return frame != NONE;
            case 1:
                return isDirty(frame);
            case 2:
                return frame != NONE && frames.isReferenced(frame);
            case 3:
                return frame != NONE && frames.isPinned(frame);
            default:
                return shadows.shadowOf(id) != NONE;
        }
    }

    private boolean isEntry(int id) {
        return isIn(id) || shadows.shadowOf(id) != NONE;
    }

    private int heightOf(int file) {
        int greatest = NONE;
        for (int page = 0; page < PAGES; page++) {
            if (isEntry(idOf(file, page))) {
                greatest = page;
            }
        }
        int height = greatest == NONE ? 0 : 1;
        while (height > 0 && height < MOST_HEIGHT && greatest >> (2 * height) > 0) {
            height++;
        }
        return height;
    }

    private int nodesOf(int file) {
        int height = heightOf(file);
        int nodes = 0;
        for (int level = 1; level <= height; level++) {
            nodes += partsOf(file, level);
        }
        return nodes;
    }

    /** How many different numbers the entries' pages have when they are cut to 4^level. */
    private int partsOf(int file, int level) {
        int parts = 0;
        int latest = NONE;
        for (int page = 0; page < PAGES; page++) {
            int part = page >> (2 * level);
            if (part != latest && isEntry(idOf(file, page))) {
                parts++;
                latest = part;
            }
        }
        return parts;
    }

    /** The frames: which page each one has, its bytes and its marks. */
    private static final class Frames {
        private final int count;
        private final int[] frameOf = new int[ALL_PAGES];
        private final int[] pageOf;
        private final int[] since;
        private final boolean[] referenced;
        private final boolean[] pinned;
        private final byte[] bytes;
        private int in = 0;
        private int dirty = 0;
        private int pins = 0;

        Frames(int count) {
            this.count = count;
            pageOf = new int[count];
            since = new int[count];
            referenced = new boolean[count];
            pinned = new boolean[count];
            bytes = new byte[count * PAGE_BYTES];
            Arrays.fill(frameOf, NONE);
            Arrays.fill(pageOf, NONE);
            Arrays.fill(since, NONE);
        }

        int frameOf(int id) {
            return frameOf[id];
        }

        int pageOf(int frame) {
            return pageOf[frame];
        }

        int sinceOf(int frame) {
            return since[frame];
        }

        boolean isDirty(int frame) {
            return since[frame] != NONE;
        }

        boolean isReferenced(int frame) {
            return referenced[frame];
        }

        boolean isPinned(int frame) {
            return pinned[frame];
        }

        int leastFree() {
            if (in == count) {
                return NONE;
            }
            for (int frame = 0; frame < count; frame++) {
                if (pageOf[frame] == NONE) {
                    return frame;
                }
            }
            return NONE;
        }

        /** A free frame has the page now, with bytes 0 and without a mark. */
        void give(int frame, int id) {
            pageOf[frame] = id;
            frameOf[id] = frame;
            in++;
            clearFrom(frame, 0);
        }

        void release(int frame) {
            if (pageOf[frame] == NONE) {
                return;
            }
            setClean(frame);
            setPinned(frame, false);
            referenced[frame] = false;
            frameOf[pageOf[frame]] = NONE;
            pageOf[frame] = NONE;
            in--;
        }

        void setReferenced(int frame, boolean now) {
            referenced[frame] = now;
        }

        void setPinned(int frame, boolean now) {
            if (pinned[frame] != now) {
                pinned[frame] = now;
                pins += now ? 1 : -1;
            }
        }

        /** A page that is DIRTY already stays so since then. */
        void setDirty(int frame, int time) {
            if (since[frame] == NONE) {
                since[frame] = time;
                dirty++;
            }
        }

        void setClean(int frame) {
            if (since[frame] != NONE) {
                since[frame] = NONE;
                dirty--;
            }
        }

        void clearFrom(int frame, int place) {
            int start = frame * PAGE_BYTES;
            for (int i = place; i < PAGE_BYTES; i++) {
                bytes[start + i] = 0;
            }
        }

        void copyIn(int frame, int place, byte[] from, int at, int length) {
            System.arraycopy(from, at, bytes, frame * PAGE_BYTES + place, length);
        }

        void copyOut(int frame, int place, byte[] to, int at, int length) {
            System.arraycopy(bytes, frame * PAGE_BYTES + place, to, at, length);
        }

        /** Lower for a DIRTY page that is older, by since when, then by files, then by pages. */
        long ageOf(int frame) {
            return (long) since[frame] * ALL_PAGES + pageOf[frame];
        }

        /** The frame of the oldest DIRTY page behind an age; NONE when there is none. */
        int oldestBehind(long age) {
            int oldest = NONE;
            if (dirty == 0) {
                return NONE;
            }
            for (int frame = 0; frame < count; frame++) {
                if (isDirty(frame) && ageOf(frame) > age
                        && (oldest == NONE || ageOf(frame) < ageOf(oldest))) {
                    oldest = frame;
                }
            }
            return oldest;
        }
    }

    /**
     * ACTIVE and INACTIVE, each a ring of frames that its own head closes: behind the head comes
     * the front, ahead of it the end. So every link is a place in the rows.
     */
    private static final class Lists {
        private final int count;
        private final int[] ahead;
        private final int[] behind;
        private final int[] listOf;
        private final int[] lengths = new int[2];

        Lists(int count) {
            this.count = count;
            ahead = new int[count + 2];
            behind = new int[count + 2];
            listOf = new int[count];
            Arrays.fill(listOf, NONE);
            for (int i = 0; i < count + 2; i++) {
                ahead[i] = i;
                behind[i] = i;
            }
        }

        int lengthOf(int list) {
            return lengths[list];
        }

        int listOf(int frame) {
            return listOf[frame];
        }

        int lastOf(int list) {
            return frameOrNone(ahead[count + list]);
        }

        int nearerFront(int frame) {
            return frameOrNone(ahead[frame]);
        }

        private int frameOrNone(int link) {
            return link < count ? link : NONE;
        }

        /** The frame comes to the front of a list, from the one that it was on if it was. */
        void toFront(int list, int frame) {
            takeOff(frame);
            int head = count + list;
            int front = behind[head];
            ahead[frame] = head;
            behind[frame] = front;
            behind[head] = frame;
            ahead[front] = frame;
            listOf[frame] = list;
            lengths[list]++;
        }

        void takeOff(int frame) {
            if (listOf[frame] == NONE) {
                return;
            }
            behind[ahead[frame]] = behind[frame];
            ahead[behind[frame]] = ahead[frame];
            lengths[listOf[frame]]--;
            listOf[frame] = NONE;
        }

        int placeOf(int frame) {
            int place = 0;
            int link = ahead[frame];
            for (int i = 0; i < count && link < count; i++) {
                link = ahead[link];
                place++;
            }
            return place;
        }

        int frameAt(int list, int place) {
            if (place < 0 || place >= lengths[list]) {
                return NONE;
            }
            int link = behind[count + list];
            for (int i = 0; i < place; i++) {
                link = behind[link];
            }
            return frameOrNone(link);
        }
    }

    /** The shadows, as many as there are frames at most, and how many pages were EVICTED. */
    private static final class Shadows {
        private final int most;
        private final int[] shadowOf = new int[ALL_PAGES];
        private final int[] pages;
        private int count = 0;
        private int evicted = 0;

        Shadows(int most) {
            this.most = most;
            pages = new int[most];
            Arrays.fill(shadowOf, NONE);
        }

        int shadowOf(int id) {
            return shadowOf[id];
        }

        /** Whether not more pages were EVICTED since this one than are ACTIVE. */
        boolean isSoon(int id, int active) {
            return shadowOf[id] != NONE && evicted - shadowOf[id] <= active;
        }

        /** One more page is EVICTED; the pages stand in the order of their shadows. */
        void add(int id) {
            evicted++;
            if (count == most) {
                removeAt(0);
            }
            pages[count] = id;
            count++;
            shadowOf[id] = evicted;
        }

        void remove(int id) {
            if (shadowOf[id] == NONE) {
                return;
            }
            for (int i = 0; i < count; i++) {
                if (pages[i] == id) {
                    removeAt(i);
                    return;
                }
            }
        }

        private void removeAt(int place) {
            shadowOf[pages[place]] = NONE;
            count--;
            System.arraycopy(pages, place + 1, pages, place, count - place);
        }

        void clear() {
            for (int i = 0; i < count; i++) {
                shadowOf[pages[i]] = NONE;
            }
            count = 0;
        }
    }

    /** The blocks of the disk: what they have, whose they are, and which fail. */
    private static final class Blocks {
        private final int count;
        private final int[] blockOf = new int[ALL_PAGES];
        private final int[] ownerOf;
        private final boolean[] failing;
        private final byte[] bytes;
        private int free;
        private int reads = 0;
        private int writes = 0;

        Blocks(int count) {
            this.count = count;
            free = count;
            ownerOf = new int[count];
            failing = new boolean[count];
            bytes = new byte[count * PAGE_BYTES];
            Arrays.fill(blockOf, NONE);
            Arrays.fill(ownerOf, NONE);
        }

        boolean has(int block) {
            return block >= 0 && block < count;
        }

        int blockOf(int id) {
            return blockOf[id];
        }

        int ownerOf(int block) {
            return ownerOf[block];
        }

        boolean isFailing(int block) {
            return failing[block];
        }

        boolean setFailing(int block, boolean fails) {
            boolean otherwise = failing[block] != fails;
            failing[block] = fails;
            return otherwise;
        }

        int byteAt(int block, int i) {
            return bytes[block * PAGE_BYTES + i] & 255;
        }

        /** The page's block, which may be the least free one from now on; NONE without any. */
        int blockFor(int id) {
            if (blockOf[id] != NONE || free == 0) {
                return blockOf[id];
            }
            for (int block = 0; block < count; block++) {
                if (ownerOf[block] == NONE) {
                    ownerOf[block] = id;
                    blockOf[id] = block;
                    free--;
                    return block;
                }
            }
            return NONE;
        }

        void takeFrom(int id) {
            int block = blockOf[id];
            if (block != NONE) {
                ownerOf[block] = NONE;
                blockOf[id] = NONE;
                free++;
            }
        }

        void load(int block, byte[] to, int at) {
            System.arraycopy(bytes, block * PAGE_BYTES, to, at, PAGE_BYTES);
            reads++;
        }

        /** A page's bytes go to the block, and 0 for those behind its first so many. */
        void save(int block, byte[] from, int at, int length) {
            int start = block * PAGE_BYTES;
            for (int i = 0; i < PAGE_BYTES; i++) {
                bytes[start + i] = i < length ? from[at + i] : 0;
            }
            writes++;
        }
    }

    /** THE RECORD, as runs. */
    private static final class Runs {
        /** A read() has 136 READS and 64 WRITES at most, and no other call has more. */
        private static final int MOST_RUNS = 256;

        private final int[] kinds = new int[MOST_RUNS];
        private final int[] firsts = new int[MOST_RUNS];
        private final int[] lengths = new int[MOST_RUNS];
        private int count = 0;
        private boolean ofEarlierCall = false;

        /** What is there stays till the call has its first READ or WRITE. */
        void beginCall() {
            ofEarlierCall = true;
        }

        void note(int kind, int block) {
            if (ofEarlierCall) {
                ofEarlierCall = false;
                count = 0;
            }
            int last = count - 1;
            if (last >= 0 && kinds[last] == kind && firsts[last] + lengths[last] == block) {
                lengths[last]++;
            } else if (count < MOST_RUNS) {
                kinds[count] = kind;
                firsts[count] = block;
                lengths[count] = 1;
                count++;
            }
        }

        int tell(int k, int what) {
            return what == 0 ? kinds[k] : what == 1 ? firsts[k] : lengths[k];
        }
    }
}
