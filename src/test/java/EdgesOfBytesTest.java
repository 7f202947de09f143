/** Promises 2 to 7: their sentences that name a boundary case, each with a test of its own. */
public final class EdgesOfBytesTest {
    private static final int NONE = PageHold.NONE;
    private static final int BAD = PageHold.BAD;
    private static final int NO_FRAME = PageHold.NO_FRAME;
    private static final int LEAST = Integer.MIN_VALUE;
    private static final int MOST = Integer.MAX_VALUE;
    private static final long ROW = 0x0807060504030201L;
    private static final Due DUE = new Due("EdgesOfBytesTest");

    public static void main(String[] args) {
        read();
        hand();
        write();
        fill();
        truncate();
        punch();
        DUE.end();
    }

    private static void read() {
        readAtMost();
        readAsFarAsTheSize();
        readNone();
        readNothingIsTouched();
        readIntoHand();
        readWrongNumbers();
        readFirstPageWithoutAFrame();
        readLaterPageWithoutAFrame();
    }

    private static void hand() {
        handAtFirst();
        handOfTheLatest();
        handOfNoneRefused();
    }

    private static void write() {
        writeOneToEight();
        writeWithinPages();
        writeToTheLastByte();
        writeWrongNumbers();
        writeGrowing();
        writeEachBehindItsTouch();
        writeFirstPageWithoutAFrame();
        writeLaterPageWithoutAFrame();
    }

    private static void fill() {
        fillOneToMost();
        fillWrongNumbers();
        fillLowestEightBits();
        fillWithoutAFrame();
    }

    private static void truncate() {
        truncateToGreater();
        truncateToTheSame();
        truncateToTheBeginningOfAPage();
        truncateWithinAPage();
        truncateToNothing();
        truncateWithoutIt();
        truncateNothingIsWritten();
        truncateWithoutAFrame();
        truncateWrongNumbers();
    }

    private static void punch() {
        punchOneToAll();
        punchAsFarAs255();
        punchHowMany();
        punchWithoutAnything();
        punchWrongNumbers();
    }

    // ---- read

    /** File 0 has 2000 bytes, of which byte i is 3 i. */
    private static PageHold with2000() {
        PageHold x = new PageHold(64, 64);
        x.fill(0, 0, 1024, 0);
        x.fill(0, 1024, 976, 3 * 1024);
        return x;
    }

    private static void readAtMost() {
        DUE.about("n (1 .. 1024) at most");
        PageHold x = with2000();
        DUE.is("-1", x.read(0, 0, -1), BAD);
        DUE.is("0", x.read(0, 0, 0), BAD);
        DUE.is("1", x.read(0, 0, 1), 1);
        DUE.is("1023", x.read(0, 0, 1023), 1023);
        DUE.is("1024", x.read(0, 7, 1024), 1024);
        DUE.is("the first", x.hand(0), 21);
        DUE.is("the last", x.hand(1023), 3 * 1030 & 255);
        DUE.is("no more", x.hand(1024), NONE);
        DUE.is("1025", x.read(0, 0, 1025), BAD);
        DUE.is("most", x.read(0, 0, MOST), BAD);
        DUE.is("least", x.read(0, 0, LEAST), BAD);
    }

    private static void readAsFarAsTheSize() {
        DUE.about("as far as its size");
        PageHold x = with2000();
        DUE.is("1024 of 1024", x.read(0, 976, 1024), 1024);
        DUE.is("the last", x.hand(1023), 3 * 1999 & 255);
        DUE.is("1023 of 1024", x.read(0, 977, 1024), 1023);
        DUE.is("no more", x.hand(1023), NONE);
        DUE.is("1 of 1", x.read(0, 1999, 1), 1);
        DUE.is("1 of 2", x.read(0, 1999, 2), 1);
        DUE.is("it is", x.hand(0), 3 * 1999 & 255);
        x.truncate(1, 16384);
        DUE.is("as far as the most", x.read(1, 16383, 1024), 1);
    }

    private static void readNone() {
        DUE.about("0 when there are none, also from the size on");
        PageHold x = with2000();
        DUE.is("a file without bytes", x.read(1, 0, 1), 0);
        DUE.is("far in it", x.read(1, MOST, 1024), 0);
        DUE.is("at the size", x.read(0, 2000, 1), 0);
        DUE.is("behind it", x.read(0, 2001, 1024), 0);
        DUE.is("behind the most", x.read(0, 16384, 1024), 0);
        DUE.is("far behind", x.read(0, MOST, 1024), 0);
        x.truncate(0, 0);
        DUE.is("no bytes any more", x.read(0, 0, 1), 0);
        x.truncate(2, 16384);
        DUE.is("at the most", x.read(2, 16384, 1), 0);
    }

    private static void readNothingIsTouched() {
        DUE.about("(nothing is touched)");
        PageHold x = new PageHold(4, 8);
        x.fill(0, 0, 70, 1);
        x.sync(0);
        DUE.is("within the last page, which is IN", x.read(0, 70, 10), 0);
        DUE.page(x, 0, 1, 1, 1, NONE, NONE, 0, 0, 0, 0);
        x.drop();
        DUE.is("within the last page, which is OUT", x.read(0, 71, 10), 0);
        DUE.is("none is IN", x.told(0), 0);
        DUE.is("no READ", x.told(6), 0);
        DUE.is("WINDOW", x.tree(0, 3), 1);
        DUE.is("NEXT", x.tree(0, 4), 0);
        DUE.is("of a file without bytes", x.read(1, 0, 1), 0);
        DUE.is("NEXT", x.tree(1, 4), 0);
        DUE.is("none is IN", x.told(0), 0);
    }

    private static void readIntoHand() {
        DUE.about("They are in HAND then, from the first one on (and no others)");
        PageHold x = with2000();
        x.read(0, 100, 5);
        for (int i = 0; i < 5; i++) {
            DUE.is("byte " + i, x.hand(i), 3 * (100 + i) & 255);
        }
        DUE.is("no others", x.hand(5), NONE);
        x.read(0, 62, 3);
        DUE.is("the first", x.hand(0), 3 * 62);
        DUE.is("over the page", x.hand(2), 3 * 64);
        DUE.is("no others of earlier", x.hand(3), NONE);
        x.read(0, 2000, 3);
        DUE.is("none", x.hand(0), NONE);
    }

    private static void readWrongNumbers() {
        DUE.about("BAD (file; at below 0; n)");
        PageHold x = with2000();
        for (int file : new int[] {-1, 12, LEAST, MOST}) {
            DUE.is("file " + file, x.read(file, 0, 1), BAD);
        }
        DUE.is("file 11", x.read(11, 0, 1), 0);
        DUE.is("at -1", x.read(0, -1, 1), BAD);
        DUE.is("at least", x.read(0, LEAST, 1024), BAD);
        DUE.is("at -1 of a file without bytes", x.read(1, -1, 1), BAD);
        DUE.is("at 0", x.read(0, 0, 1), 1);
        DUE.is("n 0 behind the size", x.read(0, 2000, 0), BAD);
        DUE.is("n 1025 behind the size", x.read(0, 2000, 1025), BAD);
    }

    private static void readFirstPageWithoutAFrame() {
        DUE.about("NO_FRAME, when the first page can not be brought in");
        PageHold x = Scene.withoutFrames(4);
        x.truncate(0, 320);
        x.read(0, 0, 2);
        DUE.is("the first", x.read(0, 256, 64), NO_FRAME);
        DUE.is("HAND is as it was", x.hand(1), 4);
        DUE.is("no more", x.hand(2), NONE);
        DUE.is("WINDOW", x.tree(0, 3), 1);
        DUE.is("NEXT", x.tree(0, 4), 0);
        DUE.is("BAD comes first", x.read(0, 256, 0), BAD);
        DUE.is("none come first", x.read(0, 320, 1), 0);
    }

    private static void readLaterPageWithoutAFrame() {
        DUE.about("at a later one: as many as were read before");
        PageHold x = Scene.withoutFrames(4);
        x.truncate(0, 320);
        DUE.is("one byte before", x.read(0, 255, 65), 1);
        DUE.is("it is in HAND", x.hand(0), 1 + 3 * 255 & 255);
        DUE.is("no others", x.hand(1), NONE);
        DUE.is("four pages before", x.read(0, 0, 320), 256);
        DUE.is("the last", x.hand(255), 1 + 3 * 255 & 255);
        DUE.is("no others", x.hand(256), NONE);
    }

    // ---- hand

    private static void handAtFirst() {
        DUE.about("NONE when there is none such");
        PageHold x = new PageHold(4, 8);
        DUE.is("at first", x.hand(0), NONE);
        x.fill(0, 0, 64, 1);
        x.read(0, 0, 3);
        DUE.is("-1", x.hand(-1), NONE);
        DUE.is("least", x.hand(LEAST), NONE);
        DUE.is("2", x.hand(2), 7);
        DUE.is("3", x.hand(3), NONE);
        DUE.is("1023", x.hand(1023), NONE);
        DUE.is("1024", x.hand(1024), NONE);
        DUE.is("most", x.hand(MOST), NONE);
    }

    private static void handOfTheLatest() {
        DUE.about("of the latest read()");
        PageHold x = new PageHold(4, 8);
        x.fill(0, 0, 64, 1);
        x.read(0, 0, 3);
        x.fill(0, 0, 64, 50);
        x.truncate(0, 1);
        x.punch(0, 0, 1);
        DUE.is("as it was read", x.hand(0), 1);
        DUE.is("the last", x.hand(2), 7);
        x.read(0, 0, 3);
        DUE.is("of the next", x.hand(0), 0);
        DUE.is("no others", x.hand(1), NONE);
        x.crash();
        DUE.is("as at first behind a crash", x.hand(0), NONE);
    }

    private static void handOfNoneRefused() {
        DUE.about("of the latest read() that was not refused");
        PageHold x = Scene.withoutFrames(4);
        x.read(0, 1, 2);
        x.read(0, 0, 0);
        x.read(0, -1, 1);
        x.read(12, 0, 1);
        DUE.is("BAD", x.hand(0), 4);
        x.truncate(1, 64);
        x.read(1, 0, 64);
        DUE.is("NO_FRAME", x.hand(1), 7);
        DUE.is("no more", x.hand(2), NONE);
        DUE.is("0 is no refusal", x.read(1, 64, 1), 0);
        DUE.is("none", x.hand(0), NONE);
    }

    // ---- write

    private static void writeOneToEight() {
        DUE.about("The n lowest bytes of a long (n 1 .. 8), the lowest first");
        for (int n = 1; n <= 8; n++) {
            PageHold x = new PageHold(4, 8);
            x.write(0, 0, -1, 8);
            DUE.is("n " + n, x.write(0, 0, ROW, n), n);
            x.read(0, 0, 8);
            for (int i = 0; i < 8; i++) {
                DUE.is("n " + n + ", byte " + i, x.hand(i), i < n ? i + 1 : 255);
            }
        }
        PageHold x = new PageHold(4, 8);
        x.write(0, 0, Long.MIN_VALUE, 8);
        x.read(0, 0, 8);
        DUE.is("the lowest of the least", x.hand(0), 0);
        DUE.is("the highest of the least", x.hand(7), 128);
    }

    private static void writeWithinPages() {
        DUE.about("The pages are TOUCHED in order (nothing comes ahead)");
        PageHold x = new PageHold(4, 8);
        x.truncate(0, 640);
        x.write(0, 56, ROW, 8);
        DUE.lists(x, "up to the end of a page", "", "0");
        x.write(0, 57, ROW, 8);
        DUE.lists(x, "one byte of the next", "", "1 0");
        DUE.is("SEEN AGAIN", x.page(0, 0, 5), 1);
        DUE.is("WINDOW", x.tree(0, 3), 1);
        DUE.is("NEXT", x.tree(0, 4), 0);
        x.read(0, 57, 8);
        DUE.is("the last of the page", x.hand(6), 7);
        DUE.is("the first of the next", x.hand(7), 8);
    }

    private static void writeToTheLastByte() {
        DUE.about("at and n together above 16384");
        for (int n = 1; n <= 8; n++) {
            PageHold x = new PageHold(4, 8);
            DUE.is("above", x.write(0, 16385 - n, ROW, n), BAD);
            DUE.is("size", x.size(0), 0);
            DUE.is("up to it", x.write(0, 16384 - n, ROW, n), n);
            DUE.is("size", x.size(0), 16384);
        }
    }

    private static void writeWrongNumbers() {
        DUE.about("BAD (file; n; at below 0, or at and n together above 16384)");
        PageHold x = new PageHold(4, 8);
        for (int file : new int[] {-1, 12, LEAST, MOST}) {
            DUE.is("file " + file, x.write(file, 0, ROW, 1), BAD);
        }
        for (int n : new int[] {-1, 0, 9, LEAST, MOST}) {
            DUE.is("n " + n, x.write(0, 0, ROW, n), BAD);
        }
        for (int at : new int[] {-1, 16384, 16385, LEAST, MOST, MOST - 7}) {
            DUE.is("at " + at, x.write(0, at, ROW, 8), BAD);
        }
        DUE.is("at -1 and 1 byte", x.write(0, -1, ROW, 1), BAD);
        DUE.is("nothing is IN", x.told(0), 0);
        DUE.is("file 11", x.write(11, 0, ROW, 1), 1);
    }

    private static void writeGrowing() {
        DUE.about("the size growing to the end of what is written so far");
        PageHold x = new PageHold(4, 8);
        x.write(0, 100, ROW, 8);
        DUE.is("grown", x.size(0), 108);
        x.write(0, 0, ROW, 8);
        DUE.is("not smaller", x.size(0), 108);
        x.write(0, 100, ROW, 8);
        DUE.is("up to it", x.size(0), 108);
        x.write(0, 101, ROW, 8);
        DUE.is("one more", x.size(0), 109);
        x.read(0, 8, 92);
        DUE.is("0 between", x.hand(91), 0);
    }

    /** The first page goes to the disk, with its bytes, for the frame of the second. */
    private static void writeEachBehindItsTouch() {
        DUE.about("each written behind that, the size growing to the end of what is written so far");
        PageHold x = Scene.withoutFrames(4);
        x.punch(0, 3, 1);
        x.fail(3, false);
        DUE.is("all", x.write(1, 60, ROW, 8), 8);
        DUE.is("size", x.size(1), 68);
        DUE.page(x, 1, 0, NONE, 3, NONE, 1);
        DUE.is("the first byte of it", x.disk(3, 60), 1);
        DUE.is("the last byte of it", x.disk(3, 63), 4);
        DUE.is("the second page", x.page(1, 1, 2), 0);
    }

    private static void writeFirstPageWithoutAFrame() {
        DUE.about("NO_FRAME, when the first page can not be brought in");
        PageHold x = Scene.withoutFrames(4);
        DUE.is("write", x.write(0, 256, ROW, 8), NO_FRAME);
        DUE.is("size", x.size(0), 256);
        DUE.is("of another file", x.write(1, 0, ROW, 8), NO_FRAME);
        DUE.is("size", x.size(1), 0);
        DUE.is("BAD comes first", x.write(0, 256, ROW, 0), BAD);
        DUE.is("BAD comes first", x.write(0, 16384, ROW, 1), BAD);
    }

    private static void writeLaterPageWithoutAFrame() {
        DUE.about("at a later one: how many bytes were written before");
        for (int n = 1; n < 8; n++) {
            PageHold x = Scene.withoutFrames(4);
            DUE.is(n + " before", x.write(0, 256 - n, ROW, 8), n);
            DUE.is("size", x.size(0), 256);
            x.read(0, 255, 1);
            DUE.is("the last", x.hand(0), n);
        }
    }

    // ---- fill

    private static void fillOneToMost() {
        DUE.about("n bytes, 1 .. 1024, likewise");
        PageHold x = new PageHold(32, 32);
        DUE.is("1", x.fill(0, 0, 1, 7), 1);
        DUE.is("size", x.size(0), 1);
        DUE.is("1024", x.fill(0, 1, 1024, 9), 1024);
        DUE.is("size", x.size(0), 1025);
        x.read(0, 0, 2);
        DUE.is("the one", x.hand(0), 7);
        DUE.is("the first", x.hand(1), 9);
        x.read(0, 1024, 1);
        DUE.is("the last", x.hand(0), 9 + 3 * 1023 & 255);
        DUE.is("up to the most", x.fill(0, 15360, 1024, 0), 1024);
        DUE.is("size", x.size(0), 16384);
        DUE.is("the last byte", x.fill(0, 16383, 1, 0), 1);
        DUE.is("nothing came ahead", x.tree(0, 3), 1);
    }

    private static void fillWrongNumbers() {
        DUE.about("Writes n bytes, 1 .. 1024, likewise");
        PageHold x = new PageHold(4, 8);
        for (int file : new int[] {-1, 12, LEAST, MOST}) {
            DUE.is("file " + file, x.fill(file, 0, 1, 1), BAD);
        }
        for (int n : new int[] {-1, 0, 1025, LEAST, MOST}) {
            DUE.is("n " + n, x.fill(0, 0, n, 1), BAD);
        }
        DUE.is("at -1", x.fill(0, -1, 1, 1), BAD);
        DUE.is("at least", x.fill(0, LEAST, 1024, 1), BAD);
        DUE.is("at most", x.fill(0, MOST, 1024, 1), BAD);
        DUE.is("at most less 1023", x.fill(0, MOST - 1023, 1024, 1), BAD);
        DUE.is("16385 together", x.fill(0, 15361, 1024, 1), BAD);
        DUE.is("16385 together", x.fill(0, 16384, 1, 1), BAD);
        DUE.is("nothing is IN", x.told(0), 0);
        DUE.is("size", x.size(0), 0);
    }

    private static void fillLowestEightBits() {
        DUE.about("byte i of them is the lowest eight bits of v + 3 i");
        for (int v : new int[] {0, 255, 256, -1, -256, -300, MOST, LEAST, MOST - 100}) {
            PageHold x = new PageHold(32, 32);
            x.fill(0, 0, 400, v);
            x.read(0, 0, 400);
            for (int i = 0; i < 400; i += 1 + i / 16) {
                DUE.is("v " + v + ", byte " + i, x.hand(i), Math.floorMod(v + 3L * i, 256));
            }
        }
    }

    private static void fillWithoutAFrame() {
        DUE.about("NO_FRAME, when the first page can not be brought in; at a later one: ..");
        PageHold x = Scene.withoutFrames(4);
        DUE.is("the first", x.fill(0, 256, 1024, 1), NO_FRAME);
        DUE.is("size", x.size(0), 256);
        DUE.is("a later one", x.fill(0, 255, 1024, 77), 1);
        DUE.is("four pages before", x.fill(0, 0, 1024, 5), 256);
        DUE.is("size", x.size(0), 256);
        x.read(0, 255, 1);
        DUE.is("the last", x.hand(0), 5 + 3 * 255 & 255);
        x.punch(0, 1, 1);
        DUE.is("one page more", x.fill(1, 0, 1024, 5), 64);
        DUE.is("size", x.size(1), 64);
    }

    // ---- truncate

    /** File 0 has pages 0 to 4, written to blocks 0 to 4 and IN. */
    private static PageHold withFivePages() {
        PageHold x = new PageHold(16, 16);
        x.fill(0, 0, 320, 1);
        x.sync(0);
        return x;
    }

    private static void truncateToGreater() {
        DUE.about("A file has another size: the size it had");
        PageHold x = withFivePages();
        x.fill(0, 300, 1, 1);
        x.truncate(0, 301);
        x.sync(0);
        int[] before = Scene.all(x, 16);
        DUE.is("one more", x.truncate(0, 302), 301);
        DUE.is("size", x.size(0), 302);
        DUE.is("to the most", x.truncate(0, 16384), 302);
        DUE.is("size", x.size(0), 16384);
        int[] after = Scene.all(x, 16);
        for (int i = 0; i < before.length; i++) {
            // Number 12 is the size of file 0.
            DUE.is("nothing else is otherwise, " + i, after[i], i == 12 ? 16384 : before[i]);
        }
        x.read(0, 300, 30);
        DUE.is("the last it had", x.hand(0), 1);
        DUE.is("0 behind", x.hand(1), 0);
        DUE.is("0 behind that page", x.hand(29), 0);
    }

    private static void truncateToTheSame() {
        DUE.about("To a smaller one: ..");
        for (int size : new int[] {0, 64, 100, 320}) {
            PageHold x = withFivePages();
            x.truncate(0, size);
            x.sync(0);
            int[] before = Scene.all(x, 16);
            DUE.is("to the same", x.truncate(0, size), size);
            int[] after = Scene.all(x, 16);
            for (int i = 0; i < before.length; i++) {
                DUE.is("nothing is otherwise, " + i, after[i], before[i]);
            }
        }
    }

    private static void truncateToTheBeginningOfAPage() {
        DUE.about("pages that begin at it or behind are OUT and have no shadow, no block");
        PageHold x = withFivePages();
        x.pin(0, 3, true);
        DUE.is("to two pages", x.truncate(0, 128), 320);
        DUE.is("size", x.size(0), 128);
        DUE.lists(x, "the others are IN", "", "1 0");
        DUE.is("they are not touched", x.page(0, 1, 5), 0);
        DUE.is("nor DIRTY", x.told(2), 0);
        DUE.is("PINNED no more", x.told(3), 0);
        DUE.is("no shadows", x.told(4), 0);
        DUE.is("not EVICTED", x.told(5), 0);
        DUE.is("free blocks", x.told(8), 14);
        x.drop();
        DUE.is("shadows", x.told(4), 2);
        DUE.is("to one page", x.truncate(0, 64), 128);
        DUE.is("its shadow stays", x.page(0, 0, 3), 1);
        DUE.is("the other's is gone", x.told(4), 1);
        x.truncate(0, 320);
        x.read(0, 63, 2);
        DUE.is("bytes before it", x.hand(0), 1 + 3 * 63);
        DUE.is("no bytes behind", x.hand(1), 0);
        x.drop();
        DUE.is("shadow of a hole", x.page(0, 1, 3) > 0, true);
        x.truncate(0, 64);
        DUE.is("gone", x.page(0, 1, 3), NONE);
        DUE.is("the other is left", x.told(4), 1);
    }

    private static void truncateWithinAPage() {
        DUE.about("if the last page that is left is cut off within it, and IN or has a block");
        for (int size : new int[] {129, 160, 191}) {
            for (int out = 0; out <= 1; out++) {
                PageHold x = withFivePages();
                x.tick(1);
                if (out == 1) {
                    x.drop();
                }
                DUE.is("to " + size, x.truncate(0, size), 320);
                DUE.is("page 2 is left", x.page(0, 2, 1), 2);
                DUE.is("page 3 is not", x.page(0, 3, 1), NONE);
                DUE.is("DIRTY", x.page(0, 2, 2), 1);
                DUE.is("page 1 is not", x.page(0, 1, 2), NONE);
                DUE.is("SEEN AGAIN or BROUGHT IN", x.page(0, 2, 5), 1 - out);
                DUE.is("READS", x.told(6), out);
                x.truncate(0, 320);
                x.read(0, 128, 64);
                DUE.is("the last", x.hand(size - 129), 1 + 3 * (size - 1) & 255);
                DUE.is("its bytes behind are 0", x.hand(size - 128), 0);
                DUE.is("up to its end", x.hand(63), 0);
            }
        }
        PageHold x = withFivePages();
        x.truncate(0, 319);
        DUE.is("one byte less", x.page(0, 4, 2), 0);
        x.sync(0);
        DUE.is("within the same page again", x.truncate(0, 318), 319);
        DUE.is("DIRTY again", x.page(0, 4, 2), 0);
        DUE.is("no other", x.told(2), 1);
    }

    private static void truncateToNothing() {
        DUE.about("pages that begin at it or behind");
        PageHold x = withFivePages();
        x.write(1, 16383, 1, 1);
        DUE.is("to 0", x.truncate(0, 0), 320);
        DUE.told(x, "the other file is left", 1, 0, 1, 0, 0, 0, 0, 5, 16);
        DUE.is("no entries", x.tree(0, 2), 0);
        DUE.is("the last page, too", x.truncate(1, 16320), 16384);
        DUE.is("none is IN", x.told(0), 0);
        DUE.is("to 0 again", x.truncate(0, 0), 0);
    }

    private static void truncateWithoutIt() {
        DUE.about("and IN or has a block: it is TOUCHED");
        PageHold x = new PageHold(16, 16);
        x.truncate(0, 320);
        DUE.is("OUT without a block", x.truncate(0, 300), 320);
        DUE.is("is not touched", x.told(0), 0);
        x.read(0, 256, 1);
        x.drop();
        DUE.is("OUT with a shadow alone", x.truncate(0, 290), 300);
        DUE.is("is not touched", x.told(0), 0);
        DUE.is("its shadow stays", x.page(0, 4, 3), 1);
        x.read(0, 256, 1);
        DUE.is("IN without a block", x.truncate(0, 280), 290);
        DUE.is("is DIRTY", x.page(0, 4, 2), 0);
        DUE.is("is touched", x.page(0, 4, 5), 1);
    }

    private static void truncateNothingIsWritten() {
        DUE.about("(nothing is written)");
        PageHold x = withFivePages();
        x.fill(0, 64, 256, 9);
        x.fail(1, true);
        DUE.is("DIRTY", x.told(2), 4);
        x.truncate(0, 70);
        DUE.is("WRITES", x.told(7), 5);
        DUE.is("one is DIRTY", x.told(2), 1);
        DUE.is("no ERROR", x.told(11), 0);
        DUE.is("the disk has what it had", x.disk(2, 0), 1 + 3 * 128 & 255);
    }

    private static void truncateWithoutAFrame() {
        DUE.about("NO_FRAME, when that page can not be brought in (all else is done)");
        PageHold x = new PageHold(4, 8);
        x.fill(1, 0, 192, 1);
        x.sync(1);
        x.drop();
        Scene.failAll(x, true);
        x.fill(0, 0, 256, 1);
        DUE.is("within page 1", x.truncate(1, 100), NO_FRAME);
        DUE.is("size", x.size(1), 100);
        DUE.is("page 2 is gone", x.page(1, 2, 1), NONE);
        DUE.is("page 1 has its block", x.page(1, 1, 1), 1);
        DUE.is("and is OUT", x.page(1, 1, 0), NONE);
        DUE.is("BAD comes first", x.truncate(1, -1), BAD);
        DUE.is("to a greater one", x.truncate(1, 101), 100);
        DUE.is("to the beginning of a page", x.truncate(1, 64), 101);
        DUE.is("within page 0", x.truncate(1, 63), NO_FRAME);
        DUE.is("to nothing", x.truncate(1, 0), 63);
        DUE.is("one that is IN", x.truncate(0, 255), 256);
    }

    private static void truncateWrongNumbers() {
        DUE.about("BAD (file, size)");
        PageHold x = withFivePages();
        for (int file : new int[] {-1, 12, LEAST, MOST}) {
            DUE.is("file " + file, x.truncate(file, 0), BAD);
        }
        for (int size : new int[] {-1, 16385, LEAST, MOST}) {
            DUE.is("size " + size, x.truncate(0, size), BAD);
        }
        DUE.is("size", x.size(0), 320);
        DUE.is("IN", x.told(0), 5);
        DUE.is("file 11 and the most", x.truncate(11, 16384), 0);
    }

    // ---- punch

    private static void punchOneToAll() {
        DUE.about("n (1 .. 256) from one on");
        PageHold x = withFivePages();
        DUE.is("1", x.punch(0, 1, 1), 1);
        DUE.is("before it", x.page(0, 0, 1), 0);
        DUE.is("it", x.page(0, 1, 1), NONE);
        DUE.is("behind it", x.page(0, 2, 1), 2);
        DUE.is("256", x.punch(0, 0, 256), 4);
        DUE.is("the last", x.page(0, 4, 1), NONE);
        DUE.is("all again", x.punch(0, 0, 256), 0);
        DUE.is("size", x.size(0), 320);
    }

    private static void punchAsFarAs255() {
        DUE.about("as far as 255");
        PageHold x = new PageHold(16, 16);
        x.write(0, 16383, 1, 1);
        x.write(0, 64 * 254, 1, 1);
        x.write(1, 0, 1, 1);
        DUE.is("255 and 255 more", x.punch(0, 255, 256), 1);
        DUE.is("254 is left", x.next(0, 0, 0), 254);
        DUE.is("the next file is left", x.next(1, 0, 0), 0);
        DUE.is("254 and 255", x.punch(0, 254, 2), 1);
        DUE.is("size", x.size(0), 16384);
        x.write(11, 16383, 1, 1);
        DUE.is("the last of all", x.punch(11, 255, 256), 1);
    }

    private static void punchHowMany() {
        DUE.about("how many of them were IN, or had a block");
        PageHold x = withFivePages();
        x.drop();
        x.read(0, 0, 1);
        DUE.is("IN and has a block", x.punch(0, 0, 1), 1);
        DUE.is("OUT with a block", x.punch(0, 2, 1), 1);
        x.read(0, 0, 1);
        DUE.is("IN without a block", x.punch(0, 0, 1), 1);
        x.read(0, 0, 1);
        x.drop();
        DUE.is("it has a shadow", x.page(0, 0, 3) > 0, true);
        DUE.is("OUT with a shadow alone", x.punch(0, 0, 1), 0);
        DUE.is("OUT", x.punch(0, 0, 1), 0);
        DUE.is("1, 3 and 4 had blocks", x.punch(0, 0, 5), 3);
        DUE.is("behind the size", x.punch(0, 5, 251), 0);
    }

    private static void punchWithoutAnything() {
        DUE.about("they are OUT, without shadow, block and bytes; the size stays");
        PageHold x = withFivePages();
        x.drop();
        x.pin(0, 1, true);
        x.fill(0, 128, 64, 9);
        DUE.is("all", x.punch(0, 0, 5), 5);
        DUE.told(x, "nothing is left", 0, 0, 0, 0, 0, 5, 2, 5, 16);
        DUE.is("size", x.size(0), 320);
        DUE.is("they are read", x.read(0, 0, 320), 320);
        for (int i = 0; i < 320; i += 16) {
            DUE.is("byte " + i, x.hand(i), 0);
        }
        DUE.is("no READ of a block", x.told(6), 2);
    }

    private static void punchWrongNumbers() {
        DUE.about("BAD (file, page, n)");
        PageHold x = withFivePages();
        for (int file : new int[] {-1, 12, LEAST, MOST}) {
            DUE.is("file " + file, x.punch(file, 0, 1), BAD);
        }
        for (int page : new int[] {-1, 256, LEAST, MOST}) {
            DUE.is("page " + page, x.punch(0, page, 256), BAD);
        }
        for (int n : new int[] {-1, 0, 257, LEAST, MOST}) {
            DUE.is("n " + n, x.punch(0, 0, n), BAD);
            DUE.is("n " + n, x.punch(0, 255, n), BAD);
        }
        DUE.told(x, "nothing is done", 5, 0, 0, 0, 0, 0, 0, 5, 11);
    }
}
