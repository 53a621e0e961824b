/** The boundary cases of PIPE (11). */
public final class PipeEdgeTest implements Numbers {
    public static void main(String[] args) {
        faults();
        fewDescriptors();
        manyOpens();
        manyPipes();
        errorsInOrder();
        makesAPipe();
        takesLeastClosed();
        endsAreOpens();
        Due.end();
    }

    /** n descriptors of process 0 stand for one open of "f"; process 1 has room and the name at 0, too. */
    private static Scene withDescriptors(int n) {
        Scene s = new Scene().room(0, 1).text(0, 0, "f").text(1, 0, "f").due(0, 0, OPEN, 0, 7);
        for (int d = 1; d < n; d++) {
            s.due(d, 0, DUP, 0);
        }
        return s;
    }

    private static void faults() {
        Due.says("FAULT when 2 bytes at A0 are not writable");
        Scene s = withDescriptors(1).map(0, 15, 15, 6);
        for (int address : new int[] {LEAST, LEAST + 1, -2, -1, 63, 64, 239, 255, 256, MOST - 1, MOST}) {
            s.refused(FAULT, 0, PIPE, address);
        }
        s.due(0, 0, PIPE, 254).dueBytes(0, 254, 1, 2).due(0, 0, PIPE, 240).dueBytes(0, 240, 3, 4);
        s = withDescriptors(1).map(0, 3, 3, 5).refused(FAULT, 0, PIPE, 47).refused(FAULT, 0, PIPE, 48)
            .due(0, 0, PIPE, 46).dueBytes(0, 46, 1, 2);
        s.map(0, 3, 3, 6).due(0, 0, PIPE, 47).dueBytes(0, 47, 3, 4);
        withDescriptors(1).due(0, 0, PIPE, 62).dueBytes(0, 62, 1, 2);
        withDescriptors(1).due(0, 0, PIPE, 0).dueBytes(0, 0, 1, 2);
    }

    private static void fewDescriptors() {
        Due.says("MFILE when fewer than two descriptors are closed");
        withDescriptors(3).due(0, 0, PIPE, 32).dueBytes(0, 32, 3, 4).dueDescriptors(0, 5);
        withDescriptors(4).refused(MFILE, 0, PIPE, 32).due(0, 1, PIPE, 32).due(0, 0, CLOSE, 0).due(0, 0, PIPE, 32)
            .dueBytes(0, 32, 0, 4);
        withDescriptors(5).refused(MFILE, 0, PIPE, 32).due(0, 0, CLOSE, 2).refused(MFILE, 0, PIPE, 32)
            .due(0, 0, CLOSE, 4).due(0, 0, PIPE, 32).dueBytes(0, 32, 2, 4);
    }

    /** n opens in all, process 0 and then process 1 have them, and process 2 has room. */
    private static Scene withOpens(int n) {
        Scene s = new Scene().room(0, 1, 2).text(0, 0, "f").text(1, 0, "f");
        for (int i = 0; i < n; i++) {
            s.due(i % 5, i / 5, OPEN, 0, 7);
        }
        return s.dueCounts(1, 1, n, 0);
    }

    private static void manyOpens() {
        Due.says("NFILE when there are more than 6 opens or 2 pipes");
        withOpens(5).due(0, 2, PIPE, 32).dueCounts(1, 1, 7, 1).refused(NFILE, 2, PIPE, 32);
        withOpens(6).due(0, 2, PIPE, 32).dueCounts(1, 1, 8, 1).refused(NFILE, 2, PIPE, 32);
        withOpens(7).refused(NFILE, 2, PIPE, 32).due(0, 0, CLOSE, 0).due(0, 2, PIPE, 32).dueCounts(1, 1, 8, 1);
        withOpens(8).refused(NFILE, 2, PIPE, 32).due(0, 0, CLOSE, 4).refused(NFILE, 2, PIPE, 32).due(0, 1, CLOSE, 1)
            .due(0, 2, PIPE, 32);
        withDescriptors(3).due(3, 0, DUP, 1).due(4, 0, DUP, 0).due(0, 1, PIPE, 32).dueCounts(1, 1, 3, 1);
    }

    private static void manyPipes() {
        Due.says("NFILE when there are more than 6 opens or 2 pipes");
        Scene s = new Scene().room(0, 1).due(0, 0, PIPE, 32).due(0, 0, PIPE, 34).dueCounts(0, 0, 4, 2)
            .refused(NFILE, 1, PIPE, 32);
        s.dueZero(CLOSE, 0, 3).dueCounts(0, 0, 2, 2).refused(NFILE, 1, PIPE, 32).refused(NFILE, 0, PIPE, 32);
        s.due(0, 0, CLOSE, 1).dueCounts(0, 0, 1, 1).due(0, 1, PIPE, 32).dueCounts(0, 0, 3, 2)
            .refused(NFILE, 1, PIPE, 32);
    }

    private static void errorsInOrder() {
        Due.says("When several errors would do, the one that is named first below is the result.");
        Scene s = withOpens(8).refused(FAULT, 0, PIPE, 63).refused(MFILE, 0, PIPE, 62).refused(FAULT, 1, PIPE, 63)
            .refused(NFILE, 1, PIPE, 62);
        s.due(3, 1, DUP, 0).refused(MFILE, 1, PIPE, 62).refused(FAULT, 1, PIPE, -1).refused(NFILE, 2, PIPE, 62);
        s = new Scene().room(0).due(0, 0, PIPE, 32).due(0, 0, PIPE, 34).refused(FAULT, 0, PIPE, 63)
            .refused(MFILE, 0, PIPE, 62);
        s.due(0, 0, CLOSE, 0).refused(NFILE, 0, PIPE, 62).refused(FAULT, 0, PIPE, 63);
    }

    private static void makesAPipe() {
        Due.says("there is a new pipe, the least closed descriptor stands for its reading end, the next least for its writing end");
        Scene s = new Scene().room(0).text(0, 16, "abc").bytes(0, 31, 9, 9, 9, 9).due(0, 0, PIPE, 32)
            .dueBytes(0, 31, 9, 0, 1, 9);
        s.refused(AGAIN, 0, READ, 0, 48, 1).refused(BADF, 0, READ, 1, 48, 1).refused(BADF, 0, WRITE, 0, 16, 1);
        s.due(0, 0, PIPE, 34).dueBytes(0, 34, 2, 3).due(3, 0, WRITE, 3, 16, 3).refused(AGAIN, 0, READ, 0, 48, 3)
            .due(3, 0, READ, 2, 48, 3).dueText(0, 48, "abc\0");
        s.dueCounts(0, 0, 4, 2).dueDescriptors(0, 4);
    }

    private static void takesLeastClosed() {
        Due.says("their numbers are put there, in this order, 0.");
        for (int first = 0; first < 5; first++) {
            for (int next = first + 1; next < 5; next++) {
                Scene s = withDescriptors(5).dueZero(CLOSE, next, first).due(0, 0, PIPE, 32)
                    .dueBytes(0, 32, first, next);
                s.due(1, 0, WRITE, next, 0, 1).due(1, 0, READ, first, 40, 1).dueText(0, 40, "f").dueDescriptors(0, 5);
            }
        }
    }

    private static void endsAreOpens() {
        Due.says("or an end of a PIPE: its reading or its writing end.");
        Scene s = withDescriptors(1).due(0, 0, PIPE, 32).dueCounts(1, 1, 3, 1).dueStat(0, 0, 0, 1, 1)
            .due(0, 0, CLOSE, 1).dueCounts(1, 1, 2, 1);
        s.due(1, 0, DUP, 2).due(0, 0, CLOSE, 2).dueCounts(1, 1, 2, 1).due(0, 0, CLOSE, 1).dueCounts(1, 1, 1, 0);
        s.due(0, 0, PIPE, 32).due(0, 0, CLOSE, 2).dueCounts(1, 1, 2, 1).due(0, 0, READ, 1, 40, 1).due(0, 0, CLOSE, 1)
            .dueCounts(1, 1, 1, 0);
    }
}
