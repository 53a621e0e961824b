/** Promise 10, pipes: PIPE, and READ, WRITE, READV, WRITEV, DUP, CLOSE of their ends. */
public final class PipeTest {
    public static void main(String[] args) {
        makesEnds();
        errorsInOrder();
        fewOpens();
        firstInFirstOut();
        readingWithoutBytes();
        writingWithoutReader();
        endsHaveOneDirection();
        ranges();
        newPipeIsEmpty();
        Due.end();
    }

    private static Machine withPipe() {
        return new Machine().roomFor(0).text(0, 0, "f").text(0, 32, "abcdefghijkl").due(0, 0, Machine.PIPE, 16, 0, 0);
    }

    private static void makesEnds() {
        Machine m = withPipe().dueBytes(0, 16, 0, 1, 0).dueCounts(0, 0, 2, 1);
        m.due(0, 0, Machine.CLOSE, 0, 0, 0).due(0, 0, Machine.OPEN, 0, 7, 0).due(2, 0, Machine.DUP, 0, 0, 0);
        m.due(0, 0, Machine.CLOSE, 0, 0, 0).due(0, 0, Machine.PIPE, 15, 0, 0).dueBytes(0, 15, 0, 3);
        m.dueCounts(1, 1, 4, 2);
        m.due(2, 0, Machine.WRITE, 3, 32, 2).due(2, 0, Machine.READ, 0, 20, 9).dueText(0, 20, "ab\0");
    }

    private static void errorsInOrder() {
        Machine m = withPipe().due(2, 0, Machine.DUP, 0, 0, 0).due(3, 0, Machine.DUP, 0, 0, 0);
        for (int address : new int[] {Integer.MIN_VALUE, -1, 63, 64, 255, 256, Integer.MAX_VALUE}) {
            m.due(Machine.FAULT, 0, Machine.PIPE, address, 0, 0);
        }
        m.due(Machine.MFILE, 0, Machine.PIPE, 62, 0, 0).dueCounts(0, 0, 2, 1);
        m.due(4, 0, Machine.DUP, 0, 0, 0).due(Machine.MFILE, 0, Machine.PIPE, 62, 0, 0);
        m.roomFor(1).due(0, 1, Machine.PIPE, 0, 0, 0).due(Machine.NFILE, 1, Machine.PIPE, 0, 0, 0);
        m.due(Machine.FAULT, 1, Machine.PIPE, 63, 0, 0);
        m.gate.map(1, 1, 5, 5);
        m.due(Machine.FAULT, 1, Machine.PIPE, 16, 0, 0).due(Machine.FAULT, 1, Machine.PIPE, 15, 0, 0);
        m.gate.map(1, 1, 5, 6);
        m.due(Machine.NFILE, 1, Machine.PIPE, 15, 0, 0).dueCounts(0, 0, 4, 2).dueBytes(0, 62, 0, 0);
    }

    private static void fewOpens() {
        Machine m = new Machine().roomFor(0).roomFor(1).text(0, 0, "f").text(1, 0, "f");
        for (int d = 0; d < 5; d++) {
            m.due(d, 0, Machine.OPEN, 0, 7, 0);
        }
        m.due(0, 1, Machine.OPEN, 0, 7, 0).due(0, 1, Machine.PIPE, 16, 0, 0).dueBytes(1, 16, 1, 2);
        m.dueCounts(1, 1, 8, 1).due(Machine.NFILE, 1, Machine.PIPE, 16, 0, 0);
        m.due(0, 1, Machine.CLOSE, 2, 0, 0).dueCounts(1, 1, 7, 1).due(Machine.NFILE, 1, Machine.PIPE, 16, 0, 0);
        m.due(Machine.MFILE, 0, Machine.PIPE, 16, 0, 0);
        m.due(0, 1, Machine.CLOSE, 0, 0, 0).dueCounts(1, 1, 6, 1).due(0, 1, Machine.PIPE, 16, 0, 0);
        m.dueBytes(1, 16, 0, 2).dueCounts(1, 1, 8, 2);
    }

    private static void firstInFirstOut() {
        Machine m = withPipe().due(5, 0, Machine.WRITE, 1, 32, 5).due(2, 0, Machine.READ, 0, 20, 2).dueText(0, 20, "ab\0");
        m.due(5, 0, Machine.WRITE, 1, 37, 7).due(Machine.AGAIN, 0, Machine.WRITE, 1, 32, 1);
        m.due(0, 0, Machine.WRITE, 1, 32, 0).due(Machine.FAULT, 0, Machine.WRITE, 1, 63, 2);
        m.due(8, 0, Machine.READ, 0, 20, 9).dueText(0, 20, "cdefghij\0");
        m.due(8, 0, Machine.WRITE, 1, 32, 8).due(Machine.FAULT, 0, Machine.READ, 0, 60, 5).dueBytes(0, 60, 0, 0, 0, 0);
        m.due(1, 0, Machine.READ, 0, 20, 1).due(1, 0, Machine.WRITE, 1, 40, 24);
        m.due(8, 0, Machine.READ, 0, 20, 12).dueText(0, 20, "bcdefghi");
    }

    private static void readingWithoutBytes() {
        Machine m = withPipe().due(Machine.AGAIN, 0, Machine.READ, 0, 20, 1).due(0, 0, Machine.READ, 0, 20, 0);
        m.due(2, 0, Machine.DUP, 1, 0, 0).due(3, 0, Machine.WRITE, 2, 32, 3).due(0, 0, Machine.CLOSE, 1, 0, 0);
        m.due(1, 0, Machine.READ, 0, 20, 1).due(0, 0, Machine.CLOSE, 2, 0, 0).dueCounts(0, 0, 1, 1);
        m.due(2, 0, Machine.READ, 0, 20, 9).dueText(0, 20, "bc").due(0, 0, Machine.READ, 0, 20, 9);
        m.due(0, 0, Machine.CLOSE, 0, 0, 0).dueCounts(0, 0, 0, 0);
    }

    private static void writingWithoutReader() {
        Machine m = withPipe().due(2, 0, Machine.DUP, 0, 0, 0).due(8, 0, Machine.WRITE, 1, 32, 8);
        m.due(0, 0, Machine.CLOSE, 0, 0, 0).due(Machine.AGAIN, 0, Machine.WRITE, 1, 32, 8);
        m.due(0, 0, Machine.CLOSE, 2, 0, 0).due(Machine.BROKEN_PIPE, 0, Machine.WRITE, 1, 32, 8);
        m.due(0, 0, Machine.WRITE, 1, 32, 0).due(Machine.FAULT, 0, Machine.WRITE, 1, 60, 8);
        m.dueCounts(0, 0, 1, 1).due(0, 0, Machine.CLOSE, 1, 0, 0).dueCounts(0, 0, 0, 0);
    }

    private static void endsHaveOneDirection() {
        Machine m = withPipe();
        m.due(Machine.BADF, 0, Machine.READ, 1, 99, 1).due(Machine.BADF, 0, Machine.WRITE, 0, 99, 1);
        m.due(Machine.BADF, 0, Machine.READ, 1, 0, 0).due(Machine.BADF, 0, Machine.WRITE, 0, 0, 0);
        m.due(Machine.BADF, 0, Machine.READV, 1, 99, 1).due(Machine.BADF, 0, Machine.WRITEV, 0, 99, 1);
        m.due(Machine.INVAL, 0, Machine.READ, 1, 99, 65).due(Machine.INVAL, 0, Machine.WRITE, 0, 99, -1);
        m.due(Machine.BADF, 1, Machine.READ, 0, 0, 0);
    }

    private static void ranges() {
        Machine m = withPipe().bytes(0, 48, 40, 3, 32, 4, 36, 4);
        m.due(Machine.AGAIN, 0, Machine.READV, 0, 48, 3).due(0, 0, Machine.READV, 0, 48, 0);
        m.due(8, 0, Machine.WRITEV, 1, 48, 3).due(Machine.AGAIN, 0, Machine.WRITEV, 1, 48, 3);
        m.bytes(0, 48, 20, 2, 4, 0, 22, 3).due(5, 0, Machine.READV, 0, 48, 3).dueText(0, 20, "ijkab\0");
        m.due(3, 0, Machine.READV, 0, 48, 3).dueText(0, 20, "cdeab");
        m.due(0, 0, Machine.CLOSE, 1, 0, 0).due(0, 0, Machine.READV, 0, 48, 3);
        m = withPipe().bytes(0, 48, 40, 3).due(0, 0, Machine.CLOSE, 0, 0, 0);
        m.due(Machine.BROKEN_PIPE, 0, Machine.WRITEV, 1, 48, 1).due(0, 0, Machine.WRITEV, 1, 48, 0);
    }

    private static void newPipeIsEmpty() {
        Machine m = withPipe().due(5, 0, Machine.WRITE, 1, 32, 5);
        m.due(0, 0, Machine.CLOSE, 0, 0, 0).due(0, 0, Machine.CLOSE, 1, 0, 0).dueCounts(0, 0, 0, 0);
        m.due(0, 0, Machine.PIPE, 16, 0, 0).due(Machine.AGAIN, 0, Machine.READ, 0, 20, 5);
        m.due(0, 0, Machine.CLOSE, 1, 0, 0).due(0, 0, Machine.READ, 0, 20, 5);
    }
}
