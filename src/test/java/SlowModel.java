import java.util.ArrayList;
import java.util.Comparator;
import java.util.HashSet;
import java.util.List;
import java.util.Set;

/**
 * The document once more, in the slowest and most literal way: nothing is counted or kept in order
 * that can be found by going through all pages. Random runs hold PageHold against it.
 */
final class SlowModel {
    static final int NONE = -1;
    static final int BAD = -2;
    static final int NO_FRAME = -3;
    static final int NO_ROOM = -4;
    static final int DEFECT = -5;

    /** A page of a file, IN when it has a frame. */
    static final class Page {
        final int file;
        final int page;
        int frame = NONE;
        int block = NONE;
        int since = NONE;
        int shadow = NONE;
        boolean referenced;
        boolean pinned;
        int[] bytes = new int[64];
        List<Page> list;

        Page(int file, int page) {
            this.file = file;
            this.page = page;
        }

        boolean in() {
            return frame != NONE;
        }

        boolean dirty() {
            return since != NONE;
        }
    }

    /** What ends a call (or what comes AHEAD) when there is no frame. */
    static final class NoFrame extends Exception {
        private static final long serialVersionUID = 1L;
    }

    final int frames;
    final int blocks;
    final Page[][] pages = new Page[12][256];
    final List<Page> all = new ArrayList<>();
    final int[] size = new int[12];
    final int[] window = new int[12];
    final int[] next = new int[12];
    final int[] error = new int[12];
    final int[][] disk;
    final boolean[] fails;
    final List<Page> active = new ArrayList<>();
    final List<Page> inactive = new ArrayList<>();
    List<Integer> hand = new ArrayList<>();
    List<int[]> record = new ArrayList<>();
    List<int[]> recordOfCall = new ArrayList<>();
    int time;
    int evicted;
    int reads;
    int writes;

    SlowModel(int frames, int blocks) {
        this.frames = frames < 4 || frames > 64 ? 16 : frames;
        this.blocks = blocks < 8 || blocks > 512 ? 128 : blocks;
        disk = new int[this.blocks][64];
        fails = new boolean[this.blocks];
        for (int f = 0; f < 12; f++) {
            window[f] = 1;
            for (int p = 0; p < 256; p++) {
                pages[f][p] = new Page(f, p);
                all.add(pages[f][p]);
            }
        }
    }

    // ---- the terms

    private void begin() {
        recordOfCall = new ArrayList<>();
    }

    private void io(int kind, int block) {
        recordOfCall.add(new int[] {kind, block});
        record = recordOfCall;
        if (kind == 0) {
            reads++;
        } else {
            writes++;
        }
    }

    private void moveToFront(Page x, List<Page> list) {
        if (x.list != null) {
            x.list.remove(x);
        }
        list.add(0, x);
        x.list = list;
    }

    private void makeOut(Page x) {
        if (x.list != null) {
            x.list.remove(x);
        }
        x.list = null;
        x.frame = NONE;
        x.since = NONE;
        x.referenced = false;
        x.pinned = false;
        x.bytes = null;
    }

    private void evict(Page x) {
        makeOut(x);
        evicted++;
        x.shadow = evicted;
        List<Page> shadows = all.stream().filter(y -> y.shadow != NONE).toList();
        if (shadows.size() > frames) {
            shadows.stream().min(Comparator.comparingInt(y -> y.shadow)).get().shadow = NONE;
        }
    }

    private void touch(Page x) throws NoFrame {
        if (!x.in()) {
            bringIn(x);
        } else if (!x.referenced) {
            x.referenced = true;
        } else if (x.list == inactive) {
            x.referenced = false;
            moveToFront(x, active);
        }
    }

    private void bringIn(Page x) throws NoFrame {
        Set<Integer> used = new HashSet<>();
        for (Page y : all) {
            used.add(y.frame);
        }
        int frame = 0;
        while (frame < frames && used.contains(frame)) {
            frame++;
        }
        if (frame == frames) {
            frame = takeBack();
        }
        x.frame = frame;
        x.bytes = new int[64];
        if (x.block != NONE) {
            x.bytes = disk[x.block].clone();
            io(0, x.block);
        }
        boolean toActive = x.shadow != NONE && evicted - x.shadow <= active.size();
        x.shadow = NONE;
        moveToFront(x, toActive ? active : inactive);
    }

    private int takeBack() throws NoFrame {
        while (active.size() > inactive.size()) {
            Page x = active.get(active.size() - 1);
            if (x.referenced) {
                x.referenced = false;
                moveToFront(x, active);
            } else {
                moveToFront(x, inactive);
            }
        }
        int looks = 0;
        while (!inactive.isEmpty() && looks < 2 * frames) {
            looks++;
            Page x = inactive.get(inactive.size() - 1);
            if (x.pinned) {
                moveToFront(x, inactive);
                continue;
            }
            if (x.referenced) {
                x.referenced = false;
                moveToFront(x, active);
                continue;
            }
            if (x.dirty() && !written(x)) {
                moveToFront(x, inactive);
                continue;
            }
            int frame = x.frame;
            evict(x);
            return frame;
        }
        for (int k = active.size() - 1; k >= 0; k--) {
            Page x = active.get(k);
            if (!x.pinned && (!x.dirty() || written(x))) {
                int frame = x.frame;
                evict(x);
                return frame;
            }
        }
        throw new NoFrame();
    }

    private boolean hasFreeBlock(Page x) {
        for (int b = 0; b < blocks; b++) {
            final int block = b;
            if (all.stream().noneMatch(y -> y.block == block)) {
                x.block = block;
                return true;
            }
        }
        return false;
    }

    private void setError(int file, int e) {
        if (error[file] == 0) {
            error[file] = e;
        }
    }

    private boolean written(Page x) {
        if (x.block == NONE && !hasFreeBlock(x)) {
            setError(x.file, NO_ROOM);
            return false;
        }
        if (fails[x.block]) {
            setError(x.file, DEFECT);
            return false;
        }
        for (int i = 0; i < 64; i++) {
            disk[x.block][i] = 64 * x.page + i < size[x.file] ? x.bytes[i] : 0;
        }
        io(1, x.block);
        x.since = NONE;
        return true;
    }

    private List<Page> dirtyOnes() {
        List<Page> found = new ArrayList<>();
        for (Page x : all) {
            if (x.dirty()) {
                found.add(x);
            }
        }
        return found;
    }

    private List<Page> oldest() {
        List<Page> found = dirtyOnes();
        // A stable sort: files and pages stay in order.
        found.sort(Comparator.comparingInt(x -> x.since));
        return found;
    }

    private void setDirty(Page x) {
        if (!x.dirty()) {
            x.since = time;
        }
    }

    private void ahead(int file, int p) {
        if (p == next[file]) {
            window[file] = Math.min(8, 2 * window[file]);
        } else {
            window[file] = 1;
        }
        next[file] = p + 1;
        for (int k = 1; k <= window[file] - 1; k++) {
            int q = p + k;
            if (q > 255 || 64 * q >= size[file]) {
                continue;
            }
            if (!pages[file][q].in()) {
                try {
                    bringIn(pages[file][q]);
                } catch (NoFrame e) {
                    return;
                }
            }
            next[file] = q + 1;
        }
    }

    private static boolean noFile(int file) {
        return file < 0 || file > 11;
    }

    private static boolean noPage(int page) {
        return page < 0 || page > 255;
    }

    // ---- the calls

    int read(int file, int at, int n) {
        begin();
        if (noFile(file) || at < 0 || n < 1 || n > 1024) {
            return BAD;
        }
        List<Integer> got = new ArrayList<>();
        long place = at;
        while (got.size() < n && place < size[file]) {
            Page x = pages[file][(int) place / 64];
            boolean out = !x.in();
            try {
                touch(x);
            } catch (NoFrame e) {
                if (got.isEmpty()) {
                    return NO_FRAME;
                }
                break;
            }
            do {
                got.add(x.bytes[(int) place % 64]);
                place++;
            } while (got.size() < n && place < size[file] && place % 64 != 0);
            if (out) {
                ahead(file, x.page);
            }
        }
        hand = got;
        return got.size();
    }

    int hand(int i) {
        return i < 0 || i >= hand.size() ? NONE : hand.get(i);
    }

    int write(int file, int at, long row, int n) {
        if (n < 1 || n > 8) {
            begin();
            return BAD;
        }
        int[] bytes = new int[n];
        for (int i = 0; i < n; i++) {
            bytes[i] = (int) (row >> 8 * i) & 255;
        }
        return put(file, at, bytes);
    }

    int fill(int file, int at, int n, int v) {
        if (n < 1 || n > 1024) {
            begin();
            return BAD;
        }
        int[] bytes = new int[n];
        for (int i = 0; i < n; i++) {
            bytes[i] = Math.floorMod(v + 3L * i, 256);
        }
        return put(file, at, bytes);
    }

    private int put(int file, int at, int[] bytes) {
        begin();
        if (noFile(file) || at < 0 || (long) at + bytes.length > 16384) {
            return BAD;
        }
        int done = 0;
        while (done < bytes.length) {
            Page x = pages[file][(at + done) / 64];
            try {
                touch(x);
            } catch (NoFrame e) {
                break;
            }
            do {
                x.bytes[(at + done) % 64] = bytes[done];
                done++;
            } while (done < bytes.length && (at + done) % 64 != 0);
            setDirty(x);
            size[file] = Math.max(size[file], at + done);
        }
        if (done == 0) {
            return NO_FRAME;
        }
        if (dirtyOnes().size() > frames / 2) {
            for (Page x : oldest()) {
                if (dirtyOnes().size() > frames / 4) {
                    written(x);
                }
            }
        }
        return done;
    }

    int truncate(int file, int to) {
        begin();
        if (noFile(file) || to < 0 || to > 16384) {
            return BAD;
        }
        int had = size[file];
        size[file] = to;
        if (to >= had) {
            return had;
        }
        for (Page x : pages[file]) {
            if (64 * x.page >= to) {
                makeOut(x);
                x.shadow = NONE;
                x.block = NONE;
            }
        }
        if (to % 64 != 0) {
            Page x = pages[file][to / 64];
            if (x.in() || x.block != NONE) {
                try {
                    touch(x);
                } catch (NoFrame e) {
                    return NO_FRAME;
                }
                for (int i = to % 64; i < 64; i++) {
                    x.bytes[i] = 0;
                }
                setDirty(x);
            }
        }
        return had;
    }

    int punch(int file, int page, int n) {
        begin();
        if (noFile(file) || noPage(page) || n < 1 || n > 256) {
            return BAD;
        }
        int count = 0;
        for (Page x : pages[file]) {
            if (x.page >= page && x.page < page + n) {
                if (x.in() || x.block != NONE) {
                    count++;
                }
                makeOut(x);
                x.shadow = NONE;
                x.block = NONE;
            }
        }
        return count;
    }

    int sync(int file) {
        begin();
        if (noFile(file)) {
            return BAD;
        }
        int count = 0;
        for (Page x : pages[file]) {
            if (x.dirty() && written(x)) {
                count++;
            }
        }
        if (error[file] != 0) {
            count = error[file];
            error[file] = 0;
        }
        return count;
    }

    int syncAll() {
        begin();
        List<Page> withBlock = new ArrayList<>();
        for (Page x : dirtyOnes()) {
            if (x.block != NONE || hasFreeBlock(x)) {
                withBlock.add(x);
            } else {
                setError(x.file, NO_ROOM);
            }
        }
        withBlock.sort(Comparator.comparingInt(x -> x.block));
        int count = 0;
        for (Page x : withBlock) {
            if (written(x)) {
                count++;
            }
        }
        return count;
    }

    int tick(int seconds) {
        begin();
        if (seconds < 0 || seconds > 1000) {
            return BAD;
        }
        int count = 0;
        for (int s = 0; s < seconds; s++) {
            time++;
            int tried = 0;
            for (Page x : oldest()) {
                if (tried < 4 && time - x.since >= 5) {
                    tried++;
                    count += written(x) ? 1 : 0;
                }
            }
        }
        return count;
    }

    int drop() {
        begin();
        int count = 0;
        for (Page x : all) {
            if (x.in() && !x.dirty() && !x.pinned) {
                evict(x);
                count++;
            }
        }
        return count;
    }

    int crash() {
        begin();
        int lost = dirtyOnes().size();
        for (Page x : all) {
            makeOut(x);
            x.shadow = NONE;
        }
        for (int f = 0; f < 12; f++) {
            window[f] = 1;
            next[f] = 0;
            error[f] = 0;
        }
        hand = new ArrayList<>();
        return lost;
    }

    boolean fail(int block, boolean now) {
        begin();
        if (block < 0 || block >= blocks) {
            return false;
        }
        boolean was = fails[block];
        fails[block] = now;
        return was != now;
    }

    boolean pin(int file, int page, boolean now) {
        begin();
        if (noFile(file) || noPage(page)) {
            return false;
        }
        Page x = pages[file][page];
        boolean was = x.pinned;
        if (!now) {
            x.pinned = false;
            return was;
        }
        if (64 * page >= size[file]) {
            return false;
        }
        if (!was && told(3) >= frames / 2) {
            return false;
        }
        try {
            touch(x);
        } catch (NoFrame e) {
            return false;
        }
        x.pinned = true;
        return was;
    }

    int size(int file) {
        return noFile(file) ? BAD : size[file];
    }

    int page(int file, int page, int what) {
        if (noFile(file) || noPage(page) || what < 0 || what > 7) {
            return BAD;
        }
        Page x = pages[file][page];
        int place = x.in() ? x.list.indexOf(x) : NONE;
        int[] answers = {x.frame, x.block, x.since, x.shadow, place,
            x.referenced ? 1 : 0, x.pinned ? 1 : 0, x.list == active ? 1 : 0};
        return answers[what];
    }

    int next(int file, int page, int mark) {
        if (noFile(file) || noPage(page) || mark < 0 || mark > 4) {
            return BAD;
        }
        for (int p = page; p < 256; p++) {
            Page x = pages[file][p];
            boolean[] has = {x.in(), x.dirty(), x.referenced, x.pinned, x.shadow != NONE};
            if (has[mark]) {
                return p;
            }
        }
        return NONE;
    }

    int tree(int file, int what) {
        if (noFile(file) || what < 0 || what > 5) {
            return BAD;
        }
        List<Integer> entries = new ArrayList<>();
        for (Page x : pages[file]) {
            if (x.in() || x.shadow != NONE) {
                entries.add(x.page);
            }
        }
        int height = 0;
        int nodes = 0;
        if (!entries.isEmpty()) {
            int greatest = entries.get(entries.size() - 1);
            height = 1;
            while (Math.pow(4, height) <= greatest) {
                height++;
            }
            for (int k = 1; k <= height; k++) {
                Set<Integer> different = new HashSet<>();
                for (int p : entries) {
                    different.add(p / (int) Math.pow(4, k));
                }
                nodes += different.size();
            }
        }
        int[] answers = {height, nodes, entries.size(), window[file], next[file], error[file]};
        return answers[what];
    }

    int listed(boolean isActive, int k) {
        List<Page> list = isActive ? active : inactive;
        return k < 0 || k >= list.size() ? NONE : 256 * list.get(k).file + list.get(k).page;
    }

    int disk(int block, int i) {
        return block < 0 || block >= blocks || i < 0 || i > 63 ? BAD : disk[block][i];
    }

    private List<int[]> runs() {
        List<int[]> runs = new ArrayList<>();
        int[] before = null;
        for (int[] io : record) {
            if (before != null && before[0] == io[0] && before[1] + 1 == io[1]) {
                runs.get(runs.size() - 1)[2]++;
            } else {
                runs.add(new int[] {io[0], io[1], 1});
            }
            before = io;
        }
        return runs;
    }

    int run(int k, int what) {
        if (what < 0 || what > 2) {
            return BAD;
        }
        List<int[]> runs = runs();
        return k < 0 || k >= runs.size() ? NONE : runs.get(k)[what];
    }

    int told(int what) {
        return what < 0 || what > 11 ? BAD : allTold()[what];
    }

    /** told() with what = 0 to 11. */
    int[] allTold() {
        int[] answers = new int[12];
        answers[8] = blocks;
        for (Page x : all) {
            answers[0] += x.in() ? 1 : 0;
            answers[1] += x.list == active ? 1 : 0;
            answers[2] += x.dirty() ? 1 : 0;
            answers[3] += x.pinned ? 1 : 0;
            answers[4] += x.shadow != NONE ? 1 : 0;
            answers[8] -= x.block != NONE ? 1 : 0;
        }
        for (int e : error) {
            answers[11] += e != 0 ? 1 : 0;
        }
        answers[5] = evicted;
        answers[6] = reads;
        answers[7] = writes;
        answers[9] = time;
        answers[10] = runs().size();
        return answers;
    }
}
