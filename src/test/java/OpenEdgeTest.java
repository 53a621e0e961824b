/** The boundary cases of OPEN (2), CLOSE (3), SEEK (6) and DUP (7). */
public final class OpenEdgeTest implements Numbers {
    public static void main(String[] args) {
        openModes();
        openEmptyString();
        openNoSuchName();
        openNoDescriptor();
        openEightOpens();
        openSixFiles();
        openEightNames();
        openErrorsInOrder();
        openMakes();
        openEmpties();
        openKeepsBytes();
        openTakesLeastClosed();
        openHasModeAndPosition();
        close();
        closeRefuses();
        dup();
        dupRefuses();
        seek();
        seekRefuses();
        seekOfPipe();
        seekErrorsInOrder();
        Due.end();
    }

    /** "f" is at 0 and "g" at 2 of processes 0 and 1, and both have room. */
    private static Scene scene() {
        return new Scene().room(0, 1).text(0, 0, "f").text(0, 2, "g").text(1, 0, "f").text(1, 2, "g")
            .text(0, 16, "abcdef");
    }

    /** The file "f" with "abcdef" in it, open as descriptor 0 of process 0, at position 6. */
    private static Scene withFile() {
        return scene().due(0, 0, OPEN, 0, 7).due(6, 0, WRITE, 0, 16, 6);
    }

    private static void openModes() {
        Due.says("INVAL when A1 is not 0 .. 15, has neither 1 (READ) nor 2 (WRITE) in it, or has 8 (EMPTY) but not 2");
        for (int mode : Numbers.outside(15)) {
            withFile().refused(INVAL, 0, OPEN, 0, mode).refused(INVAL, 0, OPEN, 2, mode);
        }
        for (int mode : new int[] {0, 4, 8, 12, 9, 13, 17, 18, 23, 31, LEAST + 3, LEAST + 7, -9, MOST - 8, 1 << 30 | 3}) {
            withFile().refused(INVAL, 0, OPEN, 0, mode).refused(INVAL, 0, OPEN, 2, mode);
        }
        for (int mode : new int[] {1, 2, 3, 5, 6, 7, 10, 11, 14, 15}) {
            withFile().due(1, 0, OPEN, 0, mode).dueStat(0, 0, mode < 8 ? 6 : 0, 1, 2);
        }
    }

    private static void openEmptyString() {
        Due.says("NOENT when the string is empty");
        withFile().refused(NOENT, 0, OPEN, 1, 3).refused(NOENT, 0, OPEN, 1, 7).refused(NOENT, 0, OPEN, 1, 15);
        scene().refused(NOENT, 0, OPEN, 1, 7).refused(NOENT, 0, OPEN, 63, 6);
    }

    private static void openNoSuchName() {
        Due.says("or there is no such name and 4 (MAKE) is not in A1");
        for (int mode : new int[] {1, 2, 3, 10, 11}) {
            withFile().refused(NOENT, 0, OPEN, 2, mode).due(1, 0, OPEN, 0, mode);
            scene().refused(NOENT, 0, OPEN, 0, mode);
        }
        for (int mode : new int[] {5, 6, 7, 14, 15}) {
            withFile().due(1, 0, OPEN, 2, mode).dueCounts(2, 2, 2, 0);
        }
        withFile().due(0, 0, UNLINK, 0).refused(NOENT, 0, OPEN, 0, 3).due(1, 0, OPEN, 0, 7).dueCounts(2, 1, 2, 0);
    }

    private static void openNoDescriptor() {
        Due.says("MFILE when no descriptor is closed");
        Scene s = withFile();
        for (int d = 1; d < 4; d++) {
            s.due(d, 0, DUP, 0);
        }
        s.due(4, 0, OPEN, 0, 1).refused(MFILE, 0, OPEN, 0, 1).refused(MFILE, 0, OPEN, 2, 7)
            .refused(MFILE, 0, OPEN, 0, 11);
        s.due(0, 1, OPEN, 0, 1).due(0, 0, CLOSE, 2).due(2, 0, OPEN, 0, 1).refused(MFILE, 0, OPEN, 0, 1);
    }

    private static void openEightOpens() {
        Due.says("NFILE when there are 8 opens");
        Scene s = withFile().due(0, 0, PIPE, 48).due(0, 1, PIPE, 48).due(3, 0, OPEN, 0, 1).due(2, 1, OPEN, 0, 1);
        s.dueCounts(1, 1, 7, 2).due(3, 1, OPEN, 0, 1).refused(NFILE, 0, OPEN, 0, 1).refused(NFILE, 1, OPEN, 2, 7);
        s.refused(NFILE, 1, OPEN, 0, 11).due(0, 1, CLOSE, 0).due(0, 1, OPEN, 0, 1).refused(NFILE, 1, OPEN, 0, 1);
    }

    /** n files "a", "b" ... without opens; the name at 32 is that of the last. */
    private static Scene withFiles(int n) {
        Scene s = scene();
        for (int i = 0; i < n; i++) {
            s.bytes(0, 32, 'a' + i, 0).due(0, 0, OPEN, 32, 7).due(0, 0, CLOSE, 0);
        }
        return s;
    }

    private static void openSixFiles() {
        Due.says("NOSPC when a new name is needed and there are 6 files or 8 names.");
        withFiles(5).text(0, 40, "new").due(0, 0, OPEN, 40, 7).dueCounts(6, 6, 1, 0);
        Scene s = withFiles(6).text(0, 40, "new").refused(NOSPC, 0, OPEN, 40, 7).refused(NOSPC, 0, OPEN, 40, 15);
        s.due(0, 0, OPEN, 32, 15).due(0, 0, UNLINK, 32).dueCounts(6, 5, 1, 0).refused(NOSPC, 0, OPEN, 32, 7);
        s.due(0, 0, CLOSE, 0).due(0, 0, OPEN, 32, 7).dueCounts(6, 6, 1, 0);
    }

    private static void openEightNames() {
        Due.says("NOSPC when a new name is needed and there are 6 files or 8 names.");
        Scene s = withFiles(5).text(0, 40, "m").text(0, 42, "n").text(0, 44, "o").text(0, 46, "new")
            .due(0, 0, LINK, 32, 40);
        s.due(0, 0, LINK, 32, 42).due(0, 0, OPEN, 46, 7).dueCounts(6, 8, 1, 0);
        s = withFiles(5).text(0, 40, "m").text(0, 42, "n").text(0, 44, "o").text(0, 46, "new").due(0, 0, LINK, 32, 40);
        s.due(0, 0, LINK, 32, 42).due(0, 0, LINK, 32, 44).dueCounts(5, 8, 0, 0).refused(NOSPC, 0, OPEN, 46, 7);
        s.due(0, 0, OPEN, 44, 7).due(0, 0, UNLINK, 44).due(1, 0, OPEN, 46, 7).dueCounts(6, 8, 2, 0);
    }

    private static void openErrorsInOrder() {
        Due.says("When several errors would do, the one that is named first below is the result.");
        Scene s = withFiles(6).text(0, 40, "abcdefgh");
        for (int d = 0; d < 5; d++) {
            s.due(d, 0, OPEN, 32, 1);
        }
        s.text(1, 32, "a").due(0, 1, OPEN, 32, 1).due(1, 1, OPEN, 32, 1).due(2, 1, OPEN, 32, 1).text(0, 48, "n")
            .text(1, 48, "n");
        s.refused(INVAL, 0, OPEN, 40, 8).refused(INVAL, 0, OPEN, -1, 16).refused(INVAL, 0, OPEN, 1, 0)
            .refused(INVAL, 1, OPEN, 48, 13);
        s.refused(FAULT, 0, OPEN, 40, 7).refused(FAULT, 1, OPEN, 256, 3).refused(FAULT, 0, OPEN, 64, 15);
        s.refused(NOENT, 0, OPEN, 48, 3).refused(NOENT, 0, OPEN, 63, 7).refused(NOENT, 1, OPEN, 48, 1)
            .refused(NOENT, 1, OPEN, 63, 7);
        s.refused(MFILE, 0, OPEN, 48, 7).refused(MFILE, 0, OPEN, 32, 3);
        s.refused(NFILE, 1, OPEN, 48, 7).refused(NFILE, 1, OPEN, 32, 3);
        s.due(0, 1, CLOSE, 0).refused(NOSPC, 1, OPEN, 48, 7).refused(MFILE, 0, OPEN, 48, 7).due(0, 1, OPEN, 32, 7);
    }

    private static void openMakes() {
        Due.says("If there was no such name, a file of 0 bytes gets it");
        Scene s = withFile().due(1, 0, OPEN, 2, 5).dueStat(0, 2, 0, 1, 1).dueStat(0, 0, 6, 1, 1)
            .due(0, 0, READ, 1, 32, 9);
        s.refused(BADF, 0, WRITE, 1, 16, 1).due(0, 0, CLOSE, 1).due(1, 0, OPEN, 2, 6).due(2, 0, WRITE, 1, 16, 2)
            .dueStat(0, 2, 2, 1, 1);
    }

    private static void openEmpties() {
        Due.says("with EMPTY the file then has 0 bytes (positions of its other opens stay).");
        Scene s = withFile().due(1, 0, OPEN, 0, 3).due(2, 0, READ, 1, 32, 2).due(2, 0, OPEN, 0, 10)
            .dueStat(0, 0, 0, 1, 3);
        s.due(0, 0, READ, 1, 32, 9).due(3, 0, WRITE, 1, 16, 3).dueStat(0, 0, 5, 1, 3).due(1, 0, WRITE, 0, 16, 1)
            .dueStat(0, 0, 7, 1, 3);
        s.due(0, 0, SEEK, 0, 0).due(7, 0, READ, 0, 32, 9).dueBytes(0, 32, 0, 0, 'a', 'b', 'c', 0, 'a');
        withFile().due(24, 0, SEEK, 0, 24).due(1, 0, OPEN, 0, 14).refused(NOSPC, 0, WRITE, 0, 16, 1)
            .dueStat(0, 0, 0, 1, 2);
    }

    private static void openKeepsBytes() {
        Due.says("with EMPTY the file then has 0 bytes");
        for (int mode : new int[] {1, 2, 3, 5, 6, 7}) {
            withFile().due(1, 0, OPEN, 0, mode).dueStat(0, 0, 6, 1, 2).due(0, 0, SEEK, 0, 0).due(6, 0, READ, 0, 32, 9)
                .dueText(0, 32, "abcdef");
        }
        withFile().text(0, 4, "n").due(0, 0, LINK, 0, 4).due(1, 0, OPEN, 4, 15).dueStat(0, 0, 0, 2, 2)
            .due(2, 0, OPEN, 2, 15).dueStat(0, 2, 0, 1, 1);
    }

    private static void openTakesLeastClosed() {
        Due.says("The result is the least closed descriptor");
        Scene s = withFile();
        for (int d = 1; d < 5; d++) {
            s.due(d, 0, OPEN, 0, 1).dueDescriptors(0, d + 1);
        }
        s.dueZero(CLOSE, 3, 1).due(1, 0, OPEN, 0, 1).due(3, 0, OPEN, 0, 1).dueZero(CLOSE, 4, 0).due(0, 0, OPEN, 0, 1)
            .due(4, 0, OPEN, 0, 1);
        s.due(0, 1, OPEN, 0, 1);
    }

    private static void openHasModeAndPosition() {
        Due.says("which stands for a new open of the file then, with the mode A1 & 3 and position 0.");
        for (int mode : new int[] {1, 2, 3, 5, 6, 7, 10, 11, 14, 15}) {
            Scene s = withFile().due(1, 0, OPEN, 0, mode).due(2, 0, OPEN, 0, 3);
            if ((mode & 1) == 0) {
                s.refused(BADF, 0, READ, 1, 32, 1);
            } else {
                s.due(mode < 8 ? 6 : 0, 0, READ, 1, 32, 9).due(0, 0, SEEK, 1, 0);
            }
            if ((mode & 2) == 0) {
                s.refused(BADF, 0, WRITE, 1, 16, 1);
            } else {
                s.due(1, 0, WRITE, 1, 18, 1).due(mode < 8 ? 6 : 1, 0, READ, 2, 32, 9).dueText(0, 32, "c");
            }
        }
    }

    private static void close() {
        Due.says("BADF; it is closed, 0.");
        Scene s = withFile().due(1, 0, OPEN, 0, 1).due(2, 0, DUP, 1).due(3, 0, DUP, 1).due(4, 0, DUP, 0);
        s.due(0, 0, CLOSE, 0).dueDescriptors(0, 4).dueCounts(1, 1, 2, 0).due(0, 0, CLOSE, 4).dueDescriptors(0, 3)
            .dueCounts(1, 1, 1, 0);
        s.refused(BADF, 0, CLOSE, 0).refused(BADF, 0, CLOSE, 4).due(6, 0, READ, 3, 32, 9);
    }

    private static void closeRefuses() {
        Due.says("\"Descriptor A0\" is BADF when A0 is not 0 .. 4 or that one is closed");
        Scene s = withFile().due(0, 1, OPEN, 0, 1).due(1, 0, DUP, 0).due(2, 0, DUP, 0).due(3, 0, DUP, 0)
            .due(4, 0, DUP, 0);
        for (int d : Numbers.outside(4)) {
            s.refused(BADF, 0, CLOSE, d).refused(BADF, 1, CLOSE, d);
        }
        s.refused(BADF, 1, CLOSE, 1).refused(BADF, 1, CLOSE, 4).refused(BADF, 2, CLOSE, 0);
        s.due(0, 0, CLOSE, 2).refused(BADF, 0, CLOSE, 2);
    }

    private static void dup() {
        Due.says("the least closed descriptor stands for the same open then, and is the result.");
        Scene s = withFile().due(1, 0, DUP, 0).due(2, 0, SEEK, 1, 2).due(1, 0, READ, 0, 32, 1).dueText(0, 32, "c");
        s.due(1, 0, READ, 1, 32, 1).dueText(0, 32, "d").dueCounts(1, 1, 1, 0).due(0, 0, CLOSE, 0).due(0, 0, DUP, 1);
        s.due(2, 0, DUP, 0).due(1, 0, READ, 2, 32, 1).dueText(0, 32, "e").dueCounts(1, 1, 1, 0);
        s = scene().due(0, 0, OPEN, 0, 5).due(1, 0, DUP, 0).refused(BADF, 0, WRITE, 1, 16, 1);
        s.due(0, 0, PIPE, 48).due(4, 0, DUP, 3).due(2, 0, WRITE, 4, 16, 2).due(0, 0, CLOSE, 3)
            .due(2, 0, READ, 2, 32, 9);
    }

    private static void dupRefuses() {
        Due.says("BADF; MFILE; the least closed descriptor stands for the same open then, and is the result.");
        Scene s = withFile().due(1, 0, DUP, 0).due(2, 0, DUP, 1);
        for (int d : Numbers.outside(4)) {
            s.refused(BADF, 0, DUP, d);
        }
        s.refused(BADF, 0, DUP, 3).refused(BADF, 1, DUP, 0).due(3, 0, DUP, 2).refused(BADF, 0, DUP, 4)
            .due(4, 0, DUP, 0);
        s.refused(MFILE, 0, DUP, 0).refused(MFILE, 0, DUP, 4).refused(BADF, 0, DUP, 5).refused(BADF, 0, DUP, -1);
        s.due(0, 1, OPEN, 0, 1).due(1, 1, DUP, 0).due(0, 0, CLOSE, 1).due(1, 0, DUP, 4);
    }

    private static void seek() {
        Due.says("the position becomes A1, which is the result.");
        Scene s = withFile().due(24, 0, SEEK, 0, 24).due(0, 0, READ, 0, 32, 1).refused(NOSPC, 0, WRITE, 0, 16, 1);
        s.due(0, 0, SEEK, 0, 0).due(6, 0, READ, 0, 32, 9).due(5, 0, SEEK, 0, 5).due(1, 0, READ, 0, 32, 9)
            .dueText(0, 32, "f");
        s.due(6, 0, SEEK, 0, 6).due(0, 0, READ, 0, 32, 9).due(7, 0, SEEK, 0, 7).due(0, 0, READ, 0, 32, 9)
            .dueStat(0, 0, 6, 1, 1);
        s.due(23, 0, SEEK, 0, 23).due(1, 0, WRITE, 0, 16, 9).dueStat(0, 0, 24, 1, 1);
        withFile().due(1, 0, OPEN, 0, 2).due(3, 0, SEEK, 1, 3).due(1, 0, WRITE, 1, 16, 1).due(3, 0, SEEK, 0, 3)
            .due(1, 0, READ, 0, 32, 1).dueText(0, 32, "a");
    }

    private static void seekRefuses() {
        Due.says("INVAL when A1 is not 0 .. 24");
        Scene s = withFile().due(3, 0, SEEK, 0, 3).due(1, 0, OPEN, 0, 1).due(2, 0, OPEN, 0, 2);
        for (int position : Numbers.outside(24)) {
            s.refused(INVAL, 0, SEEK, 0, position).refused(INVAL, 0, SEEK, 1, position)
                .refused(INVAL, 0, SEEK, 2, position);
        }
        for (int d : Numbers.outside(4)) {
            s.refused(BADF, 0, SEEK, d, 0);
        }
        s.refused(BADF, 0, SEEK, 3, 0).refused(BADF, 1, SEEK, 0, 0);
    }

    private static void seekOfPipe() {
        Due.says("SPIPE when it is an end of a pipe");
        Scene s = scene().due(0, 0, PIPE, 48).due(2, 0, DUP, 0).due(3, 0, DUP, 1).due(4, 0, WRITE, 1, 16, 4);
        for (int d = 0; d < 4; d++) {
            s.refused(SPIPE, 0, SEEK, d, 0).refused(SPIPE, 0, SEEK, d, 24).refused(SPIPE, 0, SEEK, d, 1);
        }
        s.due(4, 0, OPEN, 0, 7).due(0, 0, SEEK, 4, 0);
    }

    private static void seekErrorsInOrder() {
        Due.says("BADF; SPIPE when it is an end of a pipe; INVAL when A1 is not 0 .. 24");
        Scene s = scene().due(0, 0, PIPE, 48).refused(SPIPE, 0, SEEK, 0, 25).refused(SPIPE, 0, SEEK, 1, -1);
        s.refused(BADF, 0, SEEK, 2, 25).refused(BADF, 0, SEEK, 5, -1).refused(BADF, 0, SEEK, -1, 99);
    }
}
