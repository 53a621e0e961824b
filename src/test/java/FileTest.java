/** Promise 10, the calls about opens of files: OPEN, CLOSE, READ, WRITE, SEEK, DUP, READV, WRITEV. */
public final class FileTest {
    private static final int[] NO_DESCRIPTORS = {Integer.MIN_VALUE, -1, 5, Integer.MAX_VALUE};

    public static void main(String[] args) {
        openModes();
        openStrings();
        openErrorsInOrder();
        openNoSpace();
        openAfterUnlink();
        emptyKeepsPositions();
        closeAndDup();
        positionsAreShared();
        readAndWrite();
        readErrorsInOrder();
        writeErrorsInOrder();
        writeEnds();
        holesAreZero();
        seek();
        readRanges();
        writeRanges();
        rangesErrorsInOrder();
        rangesAreManyBytes();
        errorsChangeNothing();
        Due.end();
    }

    private static Machine withFile() {
        return new Machine().roomFor(0).text(0, 0, "f").due(0, 0, Machine.OPEN, 0, 7, 0);
    }

    private static void openModes() {
        for (int mode = -1; mode <= 17; mode++) {
            Machine m = new Machine().roomFor(0).text(0, 0, "f");
            boolean isMode = mode >= 0 && mode <= 15 && (mode & 3) != 0 && ((mode & 8) == 0 || (mode & 2) != 0);
            boolean isMaking = (mode & 4) != 0;
            m.due(!isMode ? Machine.INVAL : isMaking ? 0 : Machine.NOENT, 0, Machine.OPEN, 0, mode, 0);
            m.due(!isMode ? Machine.INVAL : isMaking ? 1 : Machine.NOENT, 0, Machine.OPEN, 0, mode, 0);
            if (isMode && isMaking) {
                m.due((mode & 2) != 0 ? 2 : Machine.BADF, 0, Machine.WRITE, 0, 16, 2);
                m.due((mode & 1) != 0 ? 0 : Machine.BADF, 0, Machine.READ, 0, 16, 2);
                m.dueCounts(1, 1, 2, 0);
            } else {
                m.dueCounts(0, 0, 0, 0);
            }
        }
        Machine m = new Machine().roomFor(0).text(0, 0, "f");
        m.due(Machine.INVAL, 0, Machine.OPEN, 0, Integer.MIN_VALUE + 7, 0);
        m.due(Machine.INVAL, 0, Machine.OPEN, 0, Integer.MAX_VALUE, 0);
    }

    private static void openStrings() {
        Machine m = new Machine().roomFor(0).text(0, 0, "abcdefg").text(0, 16, "abcdefgh").text(0, 56, "ABCDEFG");
        m.due(0, 0, Machine.OPEN, 0, 7, 0);
        m.due(Machine.FAULT, 0, Machine.OPEN, 16, 7, 0);
        m.due(1, 0, Machine.OPEN, 17, 7, 0);
        m.due(2, 0, Machine.OPEN, 56, 7, 0);
        m.dueCounts(3, 3, 3, 0);
        m.due(Machine.NOENT, 0, Machine.OPEN, 7, 7, 0);
        m.bytes(0, 62, 200, 201);
        m.due(Machine.FAULT, 0, Machine.OPEN, 62, 7, 0);
        m.due(Machine.FAULT, 0, Machine.OPEN, 64, 7, 0);
        m.gate.map(0, 4, 19, 3);
        m.due(Machine.FAULT, 0, Machine.OPEN, 62, 7, 0);
        m.gate.map(0, 4, 19, 5);
        m.due(3, 0, Machine.OPEN, 62, 7, 0);
        m.gate.map(0, 15, 19, 5);
        m.due(Machine.NOENT, 0, Machine.OPEN, 255, 7, 0);
        m.gate.poke(19, 15, 1);
        for (int address : new int[] {Integer.MIN_VALUE, -1, 255, 256, Integer.MAX_VALUE}) {
            m.due(Machine.FAULT, 0, Machine.OPEN, address, 7, 0);
        }
        m.dueCounts(4, 4, 4, 0);
    }

    private static void openErrorsInOrder() {
        Machine m = new Machine().roomFor(0).roomFor(1).text(0, 0, "a").text(0, 2, "b").text(1, 0, "a");
        for (int d = 0; d < 5; d++) {
            m.due(d, 0, Machine.OPEN, 0, 7, 0);
        }
        m.due(Machine.INVAL, 0, Machine.OPEN, 99, 8, 0);
        m.due(Machine.FAULT, 0, Machine.OPEN, 99, 7, 0);
        m.due(Machine.NOENT, 0, Machine.OPEN, 2, 3, 0);
        m.due(Machine.NOENT, 0, Machine.OPEN, 1, 7, 0);
        m.due(Machine.MFILE, 0, Machine.OPEN, 0, 3, 0);
        for (int d = 0; d < 3; d++) {
            m.due(d, 1, Machine.OPEN, 0, 3, 0);
        }
        m.dueCounts(1, 1, 8, 0);
        m.due(Machine.NFILE, 1, Machine.OPEN, 0, 3, 0);
        m.due(3, 1, Machine.DUP, 0, 0, 0);
        m.due(Machine.MFILE, 0, Machine.OPEN, 2, 7, 0);
        m.text(1, 2, "new");
        m.due(Machine.NFILE, 1, Machine.OPEN, 2, 7, 0);
        m.due(Machine.NOENT, 1, Machine.OPEN, 2, 3, 0);
        m.due(0, 0, Machine.CLOSE, 3, 0, 0);
        m.due(4, 1, Machine.OPEN, 2, 7, 0);
        m.due(Machine.MFILE, 1, Machine.OPEN, 2, 7, 0);
        m.due(Machine.NFILE, 0, Machine.OPEN, 0, 7, 0);
    }

    private static void openNoSpace() {
        Machine m = new Machine().roomFor(0);
        for (int i = 0; i < 9; i++) {
            m.text(0, 2 * i, String.valueOf((char) ('a' + i)));
        }
        for (int i = 0; i < 6; i++) {
            m.due(0, 0, Machine.OPEN, 2 * i, 7, 0).due(0, 0, Machine.CLOSE, 0, 0, 0);
        }
        m.dueCounts(6, 6, 0, 0);
        m.due(Machine.NOSPC, 0, Machine.OPEN, 12, 7, 0);
        m.due(0, 0, Machine.OPEN, 10, 7, 0);
        m.due(0, 0, Machine.UNLINK, 10, 0, 0);
        m.dueCounts(6, 5, 1, 0).due(Machine.NOSPC, 0, Machine.OPEN, 12, 7, 0);
        m.due(0, 0, Machine.CLOSE, 0, 0, 0).dueCounts(5, 5, 0, 0);
        m.due(0, 0, Machine.UNLINK, 8, 0, 0).due(0, 0, Machine.UNLINK, 6, 0, 0).dueCounts(3, 3, 0, 0);
        for (int i = 3; i < 8; i++) {
            m.due(0, 0, Machine.LINK, 0, 2 * i, 0);
        }
        m.dueCounts(3, 8, 0, 0).due(Machine.NOSPC, 0, Machine.OPEN, 16, 7, 0).dueCounts(3, 8, 0, 0);
        m.due(0, 0, Machine.OPEN, 14, 7, 0).due(0, 0, Machine.UNLINK, 14, 0, 0);
        m.due(1, 0, Machine.OPEN, 16, 7, 0).dueCounts(4, 8, 2, 0);
    }

    private static void openAfterUnlink() {
        Machine m = withFile().text(0, 16, "old");
        m.due(3, 0, Machine.WRITE, 0, 16, 3);
        m.due(0, 0, Machine.UNLINK, 0, 0, 0).dueCounts(1, 0, 1, 0);
        m.due(Machine.NOENT, 0, Machine.OPEN, 0, 3, 0);
        m.due(1, 0, Machine.OPEN, 0, 7, 0).dueCounts(2, 1, 2, 0);
        m.due(0, 0, Machine.READ, 1, 32, 9);
        m.due(0, 0, Machine.SEEK, 0, 0, 0).due(3, 0, Machine.READ, 0, 32, 9).dueText(0, 32, "old");
        m.due(0, 0, Machine.CLOSE, 0, 0, 0).dueCounts(1, 1, 1, 0);
        m.due(0, 0, Machine.UNLINK, 0, 0, 0).due(0, 0, Machine.CLOSE, 1, 0, 0).dueCounts(0, 0, 0, 0);
        m.due(0, 0, Machine.OPEN, 0, 7, 0).due(0, 0, Machine.READ, 0, 32, 9);
    }

    private static void emptyKeepsPositions() {
        Machine m = withFile().text(0, 16, "abcdef");
        m.due(6, 0, Machine.WRITE, 0, 16, 6);
        m.due(1, 0, Machine.OPEN, 0, 3, 0).due(6, 0, Machine.READ, 1, 32, 9);
        m.due(2, 0, Machine.OPEN, 0, 10, 0);
        m.due(0, 0, Machine.STAT, 0, 40, 0).dueBytes(0, 40, 0, 1, 3);
        m.due(0, 0, Machine.SEEK, 1, 0, 0).due(0, 0, Machine.READ, 1, 32, 9);
        m.due(2, 0, Machine.WRITE, 0, 16, 2);
        m.due(8, 0, Machine.READ, 1, 48, 16).dueBytes(0, 48, 0, 0, 0, 0, 0, 0, 'a', 'b', 0);
    }

    private static void closeAndDup() {
        Machine m = withFile();
        for (int d : NO_DESCRIPTORS) {
            m.due(Machine.BADF, 0, Machine.CLOSE, d, 0, 0).due(Machine.BADF, 0, Machine.DUP, d, 0, 0);
        }
        m.due(Machine.BADF, 0, Machine.CLOSE, 1, 0, 0).due(Machine.BADF, 0, Machine.DUP, 1, 0, 0);
        m.due(Machine.BADF, 1, Machine.CLOSE, 0, 0, 0).due(Machine.BADF, 1, Machine.DUP, 0, 0, 0);
        for (int d = 1; d < 5; d++) {
            m.due(d, 0, Machine.DUP, d - 1, 0, 0);
        }
        m.due(Machine.MFILE, 0, Machine.DUP, 0, 0, 0).due(Machine.BADF, 0, Machine.DUP, 5, 0, 0);
        m.dueCounts(1, 1, 1, 0);
        m.due(0, 0, Machine.CLOSE, 3, 0, 0).due(0, 0, Machine.CLOSE, 1, 0, 0).due(1, 0, Machine.DUP, 4, 0, 0);
        m.due(3, 0, Machine.OPEN, 0, 1, 0).dueCounts(1, 1, 2, 0);
        m.due(0, 0, Machine.CLOSE, 0, 0, 0).due(0, 0, Machine.CLOSE, 1, 0, 0).due(0, 0, Machine.CLOSE, 2, 0, 0);
        m.dueCounts(1, 1, 2, 0).due(0, 0, Machine.CLOSE, 4, 0, 0).dueCounts(1, 1, 1, 0);
    }

    private static void positionsAreShared() {
        Machine m = withFile().text(0, 16, "abcdef");
        m.due(6, 0, Machine.WRITE, 0, 16, 6).due(1, 0, Machine.DUP, 0, 0, 0).due(2, 0, Machine.OPEN, 0, 1, 0);
        m.due(2, 0, Machine.SEEK, 1, 2, 0);
        m.due(1, 0, Machine.READ, 0, 32, 1).dueText(0, 32, "c");
        m.due(1, 0, Machine.READ, 1, 32, 1).dueText(0, 32, "d");
        m.due(1, 0, Machine.READ, 2, 32, 1).dueText(0, 32, "a");
        m.due(0, 0, Machine.CLOSE, 0, 0, 0).due(1, 0, Machine.READ, 1, 32, 1).dueText(0, 32, "e");
    }

    private static void readAndWrite() {
        Machine m = withFile().text(0, 12, "abcdefgh");
        m.due(8, 0, Machine.WRITE, 0, 12, 8).due(0, 0, Machine.READ, 0, 40, 8);
        m.due(3, 0, Machine.SEEK, 0, 3, 0).due(2, 0, Machine.READ, 0, 31, 2).dueText(0, 30, "\0de\0");
        m.due(3, 0, Machine.READ, 0, 40, 22).dueText(0, 40, "fgh\0");
        m.due(0, 0, Machine.READ, 0, 0, 64);
        m.due(2, 0, Machine.SEEK, 0, 2, 0).due(1, 0, Machine.WRITE, 0, 12, 1);
        m.due(0, 0, Machine.STAT, 0, 60, 0).dueBytes(0, 60, 8, 1, 1);
        m.due(0, 0, Machine.SEEK, 0, 0, 0).due(8, 0, Machine.READ, 0, 40, 8).dueText(0, 40, "abadefgh");
    }

    private static void readErrorsInOrder() {
        Machine m = withFile().due(1, 0, Machine.OPEN, 0, 2, 0);
        for (int n : new int[] {Integer.MIN_VALUE, -1, 65, Integer.MAX_VALUE}) {
            m.due(Machine.INVAL, 0, Machine.READ, 4, 99, n);
        }
        for (int d : NO_DESCRIPTORS) {
            m.due(Machine.BADF, 0, Machine.READ, d, 99, 0);
        }
        m.due(Machine.BADF, 0, Machine.READ, 2, 0, 1);
        m.due(Machine.BADF, 0, Machine.READ, 1, 99, 0);
        m.due(Machine.FAULT, 0, Machine.READ, 0, 63, 2);
        m.due(0, 0, Machine.READ, 0, 63, 1);
        m.due(0, 0, Machine.READ, 0, 9999, 0);
        m.gate.map(0, 2, 2, 6);
        m.due(0, 0, Machine.READ, 0, 0, 64);
        m.gate.map(0, 2, 2, 5);
        m.due(Machine.FAULT, 0, Machine.READ, 0, 0, 64);
        m.due(0, 0, Machine.READ, 0, 0, 32);
    }

    private static void writeErrorsInOrder() {
        Machine m = withFile().due(1, 0, Machine.OPEN, 0, 1, 0);
        for (int n : new int[] {Integer.MIN_VALUE, -1, 65, Integer.MAX_VALUE}) {
            m.due(Machine.INVAL, 0, Machine.WRITE, 4, 99, n);
        }
        for (int d : NO_DESCRIPTORS) {
            m.due(Machine.BADF, 0, Machine.WRITE, d, 99, 0);
        }
        m.due(Machine.BADF, 0, Machine.WRITE, 2, 0, 1);
        m.due(Machine.BADF, 0, Machine.WRITE, 1, 99, 0);
        m.due(24, 0, Machine.SEEK, 0, 24, 0);
        m.due(Machine.FAULT, 0, Machine.WRITE, 0, 63, 2);
        m.due(0, 0, Machine.WRITE, 0, 9999, 0);
        m.due(Machine.NOSPC, 0, Machine.WRITE, 0, 63, 1);
        m.due(23, 0, Machine.SEEK, 0, 23, 0);
        m.gate.map(0, 2, 2, 5);
        m.due(1, 0, Machine.WRITE, 0, 0, 64);
        m.due(0, 0, Machine.SEEK, 0, 0, 0);
        m.gate.map(0, 2, 2, 6);
        m.due(Machine.FAULT, 0, Machine.WRITE, 0, 0, 64);
    }

    private static void writeEnds() {
        Machine m = withFile();
        for (int i = 0; i < 48; i++) {
            m.bytes(0, 16 + i, 100 + i);
        }
        m.due(24, 0, Machine.WRITE, 0, 16, 48).due(Machine.NOSPC, 0, Machine.WRITE, 0, 16, 1);
        m.due(0, 0, Machine.STAT, 0, 4, 0).dueBytes(0, 4, 24, 1, 1);
        m.due(20, 0, Machine.SEEK, 0, 20, 0).due(4, 0, Machine.READ, 0, 16, 40).dueBytes(0, 16, 120, 121, 122, 123, 104);
        m.due(23, 0, Machine.SEEK, 0, 23, 0).due(1, 0, Machine.WRITE, 0, 63, 1).due(24, 0, Machine.SEEK, 0, 24, 0);
        m.due(0, 0, Machine.READ, 0, 16, 1);
    }

    private static void holesAreZero() {
        Machine m = withFile().text(0, 16, "abcdefgh");
        m.due(8, 0, Machine.WRITE, 0, 16, 8);
        m.due(1, 0, Machine.OPEN, 0, 11, 0).due(2, 0, Machine.WRITE, 1, 16, 2);
        m.due(5, 0, Machine.SEEK, 1, 5, 0).due(0, 0, Machine.READ, 1, 32, 1).due(0, 0, Machine.WRITE, 1, 16, 0);
        m.due(0, 0, Machine.STAT, 0, 60, 0).dueBytes(0, 60, 2, 1, 2);
        m.due(1, 0, Machine.WRITE, 1, 18, 1);
        m.due(0, 0, Machine.STAT, 0, 60, 0).dueBytes(0, 60, 6, 1, 2);
        m.due(0, 0, Machine.SEEK, 0, 0, 0).bytes(0, 32, 9, 9, 9, 9, 9, 9, 9);
        m.due(6, 0, Machine.READ, 0, 32, 20).dueBytes(0, 32, 'a', 'b', 0, 0, 0, 'c', 9);
    }

    private static void seek() {
        Machine m = withFile();
        for (int d : NO_DESCRIPTORS) {
            m.due(Machine.BADF, 0, Machine.SEEK, d, 99, 0);
        }
        m.due(Machine.BADF, 0, Machine.SEEK, 1, 0, 0);
        for (int position : new int[] {Integer.MIN_VALUE, -1, 25, Integer.MAX_VALUE}) {
            m.due(Machine.INVAL, 0, Machine.SEEK, 0, position, 0);
        }
        m.due(24, 0, Machine.SEEK, 0, 24, 0).due(0, 0, Machine.SEEK, 0, 0, 0);
        m.due(0, 0, Machine.PIPE, 32, 0, 0);
        m.due(Machine.SPIPE, 0, Machine.SEEK, 1, 99, 0).due(Machine.SPIPE, 0, Machine.SEEK, 2, 0, 0);
    }

    private static void readRanges() {
        Machine m = withFile().text(0, 16, "abcdefgh");
        m.due(8, 0, Machine.WRITE, 0, 16, 8).due(0, 0, Machine.SEEK, 0, 0, 0);
        m.bytes(0, 8, 40, 2, 200, 0, 30, 3, 50, 1);
        m.due(6, 0, Machine.READV, 0, 8, 4);
        m.dueText(0, 40, "ab\0").dueText(0, 30, "cde\0").dueText(0, 50, "f\0");
        m.due(2, 0, Machine.READV, 0, 8, 4).dueText(0, 40, "gh\0").dueText(0, 30, "cde");
        m.due(0, 0, Machine.SEEK, 0, 0, 0).bytes(0, 8, 40, 3, 41, 3);
        m.due(6, 0, Machine.READV, 0, 8, 2).dueText(0, 40, "adef");
        m.due(0, 0, Machine.SEEK, 0, 0, 0).bytes(0, 8, 10, 2, 44, 2);
        m.due(4, 0, Machine.READV, 0, 8, 2).dueBytes(0, 8, 10, 2, 'a', 'b').dueText(0, 44, "cd");
    }

    private static void writeRanges() {
        Machine m = withFile().text(0, 16, "abcdefgh").bytes(0, 8, 20, 2, 16, 3, 255, 0, 16, 1);
        m.due(6, 0, Machine.WRITEV, 0, 8, 4).due(0, 0, Machine.SEEK, 0, 0, 0);
        m.due(6, 0, Machine.READ, 0, 40, 20).dueText(0, 40, "efabca\0");
        m.due(22, 0, Machine.SEEK, 0, 22, 0).bytes(0, 8, 16, 1, 20, 4);
        m.due(2, 0, Machine.WRITEV, 0, 8, 2).due(Machine.NOSPC, 0, Machine.WRITEV, 0, 8, 2);
        m.due(22, 0, Machine.SEEK, 0, 22, 0).due(2, 0, Machine.READ, 0, 40, 20).dueText(0, 40, "ae");
    }

    private static void rangesErrorsInOrder() {
        Machine m = withFile().due(1, 0, Machine.OPEN, 0, 1, 0).due(2, 0, Machine.OPEN, 0, 2, 0);
        for (int number = Machine.READV; number <= Machine.WRITEV; number++) {
            int wrongMode = number == Machine.READV ? 2 : 1;
            for (int pairs : new int[] {Integer.MIN_VALUE, -1, 5, Integer.MAX_VALUE}) {
                m.due(Machine.INVAL, 0, number, 4, 999, pairs);
            }
            for (int d : NO_DESCRIPTORS) {
                m.due(Machine.BADF, 0, number, d, 999, 1);
            }
            m.due(Machine.BADF, 0, number, 3, 999, 0).due(Machine.BADF, 0, number, wrongMode, 999, 1);
            for (int address : new int[] {Integer.MIN_VALUE, -1, 57, 64, 255, 256, Integer.MAX_VALUE}) {
                m.due(Machine.FAULT, 0, number, 0, address, 4);
                m.due(0, 0, number, 0, address, 0);
            }
            m.bytes(0, 56, 255, 0, 64, 0, 0, 0, 250, 0).due(0, 0, number, 0, 56, 4);
            m.bytes(0, 56, 16, 1, 63, 2).due(Machine.FAULT, 0, number, 0, 56, 2);
            m.bytes(0, 56, 16, 0, 1, 255).due(Machine.FAULT, 0, number, 0, 56, 2);
            m.bytes(0, 56, 255, 2, 0, 0).due(Machine.FAULT, 0, number, 0, 56, 2);
            m.due(0, 0, number, 0, 58, 1);
        }
        m.dueBytes(0, 16, 0, 0).bytes(0, 8, 32, 1, 48, 1);
        m.gate.map(0, 2, 2, 5);
        m.due(Machine.FAULT, 0, Machine.READV, 0, 8, 2).due(2, 0, Machine.WRITEV, 0, 8, 2);
        m.gate.map(0, 2, 2, 6);
        m.due(0, 0, Machine.READV, 0, 8, 2).due(Machine.FAULT, 0, Machine.WRITEV, 0, 8, 2);
        m.gate.map(0, 0, 0, 6);
        m.due(Machine.FAULT, 0, Machine.READV, 0, 8, 1).due(Machine.FAULT, 0, Machine.WRITEV, 0, 8, 1);
        m.due(24, 0, Machine.SEEK, 0, 24, 0).due(0, 0, Machine.WRITEV, 0, 8, 0);
    }

    private static void rangesAreManyBytes() {
        Machine m = withFile().text(0, 48, "abcdefgh");
        for (int page = 0; page < 16; page++) {
            m.gate.map(0, page, page % 4, 7);
        }
        m.bytes(0, 16, 1, 255, 0, 255, 0, 255, 48, 8);
        m.due(24, 0, Machine.WRITEV, 0, 16, 4).due(0, 0, Machine.SEEK, 0, 0, 0);
        m.due(24, 0, Machine.READV, 0, 16, 4).dueBytes(0, 1, 0, 0).dueBytes(0, 16, 1, 255, 0, 255, 0, 255, 48, 8);
    }

    private static void errorsChangeNothing() {
        Machine m = withFile().text(0, 16, "abc").due(3, 0, Machine.WRITE, 0, 16, 3);
        m.due(1, 0, Machine.SEEK, 0, 1, 0);
        m.due(Machine.FAULT, 0, Machine.READ, 0, 62, 3).dueBytes(0, 62, 0, 0);
        m.due(Machine.FAULT, 0, Machine.WRITE, 0, 62, 3);
        m.bytes(0, 8, 40, 1, 63, 2).due(Machine.FAULT, 0, Machine.READV, 0, 8, 2).dueBytes(0, 40, 0);
        m.due(Machine.INVAL, 0, Machine.SEEK, 0, 25, 0);
        m.due(2, 0, Machine.READ, 0, 40, 9).dueText(0, 40, "bc\0");
        m.dueCounts(1, 1, 1, 0);
    }
}
