/** Terms, MEMORY: which addresses and how many bytes at them are readable or writable; COPY (13) and PROTECT (14). */
public final class MemoryEdgeTest implements Numbers {
    /** What is due, number, A0, A1, A2 of calls that read from page 5 of process 0, as scene() has it. */
    private static final int[][] READERS = {
        {1, COPY, 0, 80, 1}, {1, WRITE, 0, 95, 1}, {1, WRITEV, 0, 32, 1}, {0, READV, 0, 84, 1},
        {1, OPEN, 80, 3, 0}, {0, UNLINK, 80, 0, 0}, {0, STAT, 80, 48, 0}, {0, LINK, 80, 8, 0}, {0, LINK, 0, 82, 0},
        {0, RENAME, 80, 8, 0}, {0, RENAME, 0, 82, 0},
    };

    /** The same of calls that write to page 5. */
    private static final int[][] WRITERS = {
        {1, COPY, 80, 0, 1}, {1, COPY, 95, 0, 1}, {1, READ, 0, 95, 1}, {1, READV, 0, 32, 1}, {0, STAT, 0, 93, 0},
        {0, PIPE, 94, 0, 0}, {1, LIST, 0, 94, 0},
    };

    public static void main(String[] args) {
        addresses();
        readable();
        writable();
        withoutFrame();
        allPagesReadable();
        allPagesWritable();
        betweenZeroAndLast();
        noBytesAlways();
        noBytesOfRanges();
        sharedFrames();
        laterOneStays();
        copySizes();
        copyErrorsInOrder();
        copyReadsFirst();
        protectPages();
        protectFlags();
        protectFaults();
        protectErrorsInOrder();
        protectChanges();
        Due.end();
    }

    /** A file "f" with "xyz" in it, open at its beginning; "f" and "g" in page 5, and the pair of address 95 and 1. */
    private static Scene scene(int flags) {
        Scene s = new Scene().room(0).map(0, 5, 15, flags);
        s.text(0, 0, "f").text(0, 8, "h").text(0, 16, "xyz").bytes(0, 32, 95, 1).text(0, 80, "f").text(0, 82, "g");
        return s.due(0, 0, OPEN, 0, 7).due(3, 0, WRITE, 0, 16, 3).due(0, 0, SEEK, 0, 0);
    }

    private static void dueOrFault(Scene s, boolean isAllowed, int[] use) {
        if (isAllowed) {
            s.due(use[0], 0, use[1], use[2], use[3], use[4]);
        } else {
            s.refused(FAULT, 0, use[1], use[2], use[3], use[4]);
        }
    }

    private static void addresses() {
        Due.says("ADDRESS a of a process, 0 .. 255, is byte a % 16 of the frame of page a / 16.");
        for (int a : new int[] {0, 1, 15, 16, 127, 239, 240, 254, 255}) {
            Scene s = new Scene();
            for (int page = 0; page < 16; page++) {
                s.map(1, page, 19 - page, 7);
            }
            s.poke(19 - a / 16, a % 16, 200).due(1, 1, COPY, 100, a, 1).dueByte(13, 4, 200);
            s.poke(13, 4, 90).due(1, 1, COPY, a, 100, 1).dueByte(19 - a / 16, a % 16, 90);
            s.refused(FAULT, 1, COPY, 100, -1, 1).refused(FAULT, 1, COPY, -1, 100, 1);
            s.refused(FAULT, 1, COPY, 100, 256, 1).refused(FAULT, 1, COPY, 256, 100, 1);
        }
    }

    private static void readable() {
        Due.says("It is READABLE when that page has a frame and the flags READ and USER");
        for (int flags = 0; flags <= 7; flags++) {
            for (int[] use : READERS) {
                dueOrFault(scene(flags), flags == 5 || flags == 7, use);
            }
        }
    }

    private static void writable() {
        Due.says("WRITABLE likewise with WRITE and USER.");
        for (int flags = 0; flags <= 7; flags++) {
            for (int[] use : WRITERS) {
                dueOrFault(scene(flags), flags == 6 || flags == 7, use);
            }
        }
    }

    private static void withoutFrame() {
        Due.says("a page has no frame, or a frame and FLAGS");
        for (int[] use : READERS) {
            dueOrFault(scene(7).unmap(0, 5), false, use);
        }
        for (int[] use : WRITERS) {
            dueOrFault(scene(7).unmap(0, 5), false, use);
        }
    }

    /** Pages 4 .. 6 get frames; one of them gets other flags, or loses its frame (flags -1). */
    private static Scene threePages(int other, int flags) {
        Scene s = scene(7).map(0, 4, 14, 7).map(0, 6, 16, 7).bytes(0, 34, 79, 18);
        return flags < 0 ? s.unmap(0, other) : s.map(0, other, 10 + other, flags);
    }

    private static void allPagesReadable() {
        Due.says("n bytes at an address are readable (writable) when all the addresses a .. a + n - 1 are between 0 and 255 and are so");
        for (int other = 4; other <= 6; other++) {
            for (int flags : new int[] {-1, 0, 1, 3, 4, 6}) {
                Scene s = threePages(other, flags).refused(FAULT, 0, COPY, 0, 79, 18);
                s.refused(FAULT, 0, WRITE, 0, 79, 18).refused(FAULT, 0, WRITEV, 0, 34, 1);
            }
            threePages(other, 5).due(18, 0, COPY, 0, 79, 18).due(18, 0, WRITE, 0, 79, 18);
            threePages(other, 5).due(18, 0, WRITEV, 0, 34, 1);
        }
        threePages(4, -1).due(17, 0, COPY, 0, 80, 17).refused(FAULT, 0, COPY, 0, 79, 1);
        threePages(6, -1).due(17, 0, COPY, 0, 79, 17).refused(FAULT, 0, COPY, 0, 96, 1);
        threePages(5, -1).due(1, 0, COPY, 0, 79, 1).due(1, 0, COPY, 0, 96, 1).refused(FAULT, 0, COPY, 0, 79, 2);
        threePages(5, -1).due(0, 0, READV, 0, 76, 2).refused(FAULT, 0, READV, 0, 76, 3)
            .refused(FAULT, 0, READV, 0, 77, 2);
    }

    private static void allPagesWritable() {
        Due.says("n bytes at an address are readable (writable) when all the addresses a .. a + n - 1 are between 0 and 255 and are so");
        for (int other = 4; other <= 6; other++) {
            for (int flags : new int[] {-1, 0, 2, 3, 4, 5}) {
                Scene s = threePages(other, flags).refused(FAULT, 0, COPY, 79, 0, 18);
                s.refused(FAULT, 0, READ, 0, 79, 18).refused(FAULT, 0, READV, 0, 34, 1);
            }
            threePages(other, 6).due(18, 0, COPY, 79, 0, 18).due(3, 0, READ, 0, 79, 18);
            threePages(other, 6).due(3, 0, READV, 0, 34, 1);
        }
        threePages(4, 5).due(17, 0, COPY, 80, 0, 17).refused(FAULT, 0, COPY, 79, 0, 1);
        threePages(6, 5).due(17, 0, COPY, 79, 0, 17).refused(FAULT, 0, COPY, 96, 0, 1);
        threePages(5, 5).due(1, 0, COPY, 79, 0, 1).due(1, 0, COPY, 96, 0, 1).refused(FAULT, 0, COPY, 79, 0, 2);
        threePages(5, 5).due(0, 0, STAT, 0, 77).refused(FAULT, 0, STAT, 0, 78).refused(FAULT, 0, STAT, 0, 79);
        threePages(5, 5).refused(FAULT, 0, PIPE, 79).due(0, 0, PIPE, 78);
        threePages(5, 5).refused(FAULT, 0, LIST, 0, 79).due(1, 0, LIST, 0, 78);
    }

    private static void betweenZeroAndLast() {
        Due.says("all the addresses a .. a + n - 1 are between 0 and 255");
        Scene s = scene(7).map(0, 12, 16, 7).map(0, 13, 17, 7).map(0, 14, 18, 7).map(0, 15, 19, 7);
        s.due(64, 0, COPY, 0, 192, 64).due(64, 0, COPY, 192, 0, 64).due(1, 0, COPY, 255, 0, 1)
            .due(1, 0, COPY, 0, 255, 1);
        int[][] beyond = {
            {193, 64}, {255, 2}, {255, 64}, {256, 1}, {256, 64}, {-1, 1}, {-1, 2}, {-1, 64}, {-63, 64}, {-64, 64}, {LEAST, 1},
            {LEAST, 64}, {LEAST + 255, 1}, {MOST, 1}, {MOST, 2}, {MOST - 62, 64}, {MOST - 63, 64}, {MOST, 64},
        };
        for (int[] range : beyond) {
            s.refused(FAULT, 0, COPY, 0, range[0], range[1]).refused(FAULT, 0, COPY, range[0], 0, range[1]);
            s.refused(FAULT, 0, READ, 0, range[0], range[1]).refused(FAULT, 0, WRITE, 0, range[0], range[1]);
        }
        s.due(3, 0, READ, 0, 192, 64).due(1, 0, WRITE, 0, 255, 1);
    }

    private static void noBytesAlways() {
        Due.says("0 bytes are always.");
        Scene s = scene(0);
        for (int a : new int[] {LEAST, LEAST + 255, -1, 64, 80, 255, 256, MOST}) {
            s.due(0, 0, COPY, a, 0, 0).due(0, 0, COPY, 0, a, 0).due(0, 0, COPY, a, a, 0);
            s.due(0, 0, READ, 0, a, 0).due(0, 0, WRITE, 0, a, 0).due(0, 0, READV, 0, a, 0).due(0, 0, WRITEV, 0, a, 0);
        }
    }

    private static void noBytesOfRanges() {
        Due.says("0 bytes are always.");
        Scene s = scene(0).bytes(0, 40, 255, 0, 80, 0, 64, 0, 95, 0);
        s.due(0, 0, READV, 0, 40, 4).due(0, 0, WRITEV, 0, 40, 4);
        s.bytes(0, 40, 255, 0, 48, 1, 80, 0, 50, 1).due(2, 0, READV, 0, 40, 4).dueText(0, 48, "x\0y")
            .due(2, 0, WRITEV, 0, 40, 4);
        s.bytes(0, 40, 255, 0, 48, 1, 80, 1, 50, 1).refused(FAULT, 0, READV, 0, 40, 4)
            .refused(FAULT, 0, WRITEV, 0, 40, 4);
    }

    private static void sharedFrames() {
        Due.says("(Several pages may have one frame.)");
        Scene s = new Scene().map(0, 0, 7, 5).map(0, 15, 7, 6).map(2, 3, 7, 7).poke(7, 0, 1);
        s.due(1, 0, COPY, 241, 0, 1).dueByte(7, 1, 1).due(2, 2, COPY, 50, 48, 2).dueByte(7, 3, 1);
        s.refused(FAULT, 0, COPY, 1, 0, 1).refused(FAULT, 0, COPY, 241, 240, 1);
    }

    private static void laterOneStays() {
        Due.says("bytes are put one after the other, so that of two that come to one byte of a frame the later one stays.");
        Scene s = new Scene().map(0, 0, 0, 7).map(0, 1, 0, 7).map(0, 2, 1, 7).map(0, 3, 2, 7);
        for (int i = 0; i < 32; i++) {
            s.bytes(0, 32 + i, 100 + i);
        }
        s.due(17, 0, COPY, 0, 32, 17).dueBytes(0, 0, 116, 101, 102).dueBytes(0, 15, 115);
        s.due(32, 0, COPY, 0, 32, 32).dueBytes(0, 0, 116, 117).dueBytes(0, 15, 131);
        s.due(16, 0, COPY, 8, 32, 16).dueBytes(0, 7, 115, 100, 101).dueBytes(0, 0, 108);
    }

    private static void copySizes() {
        Due.says("INVAL when A2 is not 0 .. 64; FAULT when they are not readable at A1 or not writable at A0; they are copied, A2.");
        Scene s = scene(0);
        for (int n : Numbers.outside(64)) {
            s.refused(INVAL, 0, COPY, 0, 0, n);
        }
        s.due(0, 0, COPY, 0, 16, 0).dueText(0, 0, "f").due(64, 0, COPY, 0, 0, 64).dueText(0, 16, "xyz");
        s.due(63, 0, COPY, 1, 0, 63).dueText(0, 0, "ff").dueText(0, 17, "xyz").refused(FAULT, 0, COPY, 1, 0, 64);
    }

    private static void copyErrorsInOrder() {
        Due.says("When several errors would do, the one that is named first below is the result.");
        Scene s = scene(0).refused(INVAL, 0, COPY, 80, 80, 65).refused(INVAL, 0, COPY, -1, 0, -1)
            .refused(INVAL, 0, COPY, 0, 256, 65);
        s.refused(FAULT, 0, COPY, 80, 80, 64).refused(FAULT, 0, COPY, 0, 80, 1).refused(FAULT, 0, COPY, 80, 0, 1);
        s.map(0, 1, 1, 5).map(0, 2, 2, 6).due(16, 0, COPY, 32, 16, 16).dueText(0, 32, "xyz");
        s.refused(FAULT, 0, COPY, 16, 32, 16).refused(FAULT, 0, COPY, 16, 0, 1).refused(FAULT, 0, COPY, 0, 32, 1);
    }

    private static void copyReadsFirst() {
        Due.says("What is read from memory is all read before anything is put into it");
        new Scene().room(0).text(0, 14, "abcd").due(4, 0, COPY, 15, 14, 4).dueText(0, 14, "aabcd");
        new Scene().room(0).text(0, 15, "abcd").due(4, 0, COPY, 14, 15, 4).dueText(0, 14, "abcdd");
        new Scene().room(0).text(0, 14, "abcd").due(4, 0, COPY, 14, 14, 4).dueText(0, 13, "\0abcd\0");
        Scene s = new Scene().map(0, 0, 0, 7).map(0, 1, 0, 7).text(0, 0, "abcd");
        s.due(4, 0, COPY, 17, 0, 4).dueText(0, 0, "aabcd").due(4, 0, COPY, 0, 17, 4).dueText(0, 0, "abcdd");
    }

    private static void protectPages() {
        Due.says("INVAL when A0 is not 0 .. 15 or A1 not 0 .. 3");
        Scene s = Scene.busy().map(0, 0, 0, 7).map(0, 15, 19, 6).map(2, 0, 9, 7);
        for (int page : Numbers.outside(15)) {
            s.refused(INVAL, 0, PROTECT, page, 3).refused(INVAL, 1, PROTECT, page, 0);
        }
        s.due(2, 0, PROTECT, 15, 1).duePage(0, 15, 157).due(3, 0, PROTECT, 0, 0).duePage(0, 0, 4).duePage(1, 0, 39);
    }

    private static void protectFlags() {
        Due.says("INVAL when A0 is not 0 .. 15 or A1 not 0 .. 3");
        Scene s = scene(7);
        for (int flags : Numbers.outside(3)) {
            s.refused(INVAL, 0, PROTECT, 5, flags);
        }
        s.refused(INVAL, 0, PROTECT, 5, 7).due(3, 0, PROTECT, 5, 0).duePage(0, 5, 124).due(0, 0, PROTECT, 5, 3)
            .duePage(0, 5, 127);
    }

    private static void protectFaults() {
        Due.says("FAULT when the page has no frame or not the flag USER");
        for (int flags = 0; flags < 4; flags++) {
            scene(flags).refused(FAULT, 0, PROTECT, 5, 0).refused(FAULT, 0, PROTECT, 5, 3);
        }
        scene(7).refused(FAULT, 0, PROTECT, 4, 3).refused(FAULT, 1, PROTECT, 5, 3).unmap(0, 5)
            .refused(FAULT, 0, PROTECT, 5, 3);
        scene(4).due(0, 0, PROTECT, 5, 0).duePage(0, 5, 124);
    }

    private static void protectErrorsInOrder() {
        Due.says("When several errors would do, the one that is named first below is the result.");
        scene(3).refused(INVAL, 0, PROTECT, 5, 4).refused(INVAL, 0, PROTECT, 4, -1).refused(INVAL, 0, PROTECT, 16, 0);
    }

    private static void protectChanges() {
        Due.says("its READ and WRITE become A1's (USER stays); the result is what they were (0 .. 3).");
        for (int before = 4; before <= 7; before++) {
            for (int wanted = 0; wanted <= 3; wanted++) {
                Scene s = scene(before).map(1, 5, 15, 5).map(0, 6, 15, 6).due(before - 4, 0, PROTECT, 5, wanted);
                s.duePage(0, 5, 124 + wanted).duePage(1, 5, 125).duePage(0, 6, 126).duePage(0, 0, 7);
                dueOrFault(s, (wanted & 1) != 0, new int[] {1, COPY, 0, 80, 1});
                dueOrFault(s, (wanted & 2) != 0, new int[] {1, COPY, 80, 0, 1});
            }
        }
    }
}
