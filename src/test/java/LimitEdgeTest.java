/** Terms, FILES to pipes: how many there may be, the empty and the full, and when one is gone. */
public final class LimitEdgeTest implements Numbers {
    public static void main(String[] args) {
        sixFiles();
        namelessFilesCount();
        fileBytes();
        eightNames();
        nameBytes();
        noTwoAlike();
        severalNamesOrNone();
        eightOpens();
        positions();
        fiveDescriptors();
        processesHaveTheirOwn();
        openIsGone();
        fileIsGone();
        newFileIsEmpty();
        newOpenStartsAgain();
        pipeBytes();
        pipeIsGone();
        newPipeIsEmpty();
        twoPipes();
        leastFree();
        Due.end();
    }

    private static Scene withFile() {
        return new Scene().room(0, 1, 2).text(0, 0, "f").text(1, 0, "f").text(2, 0, "f").due(0, 0, OPEN, 0, 7);
    }

    private static void sixFiles() {
        Due.says("FILES: at most 6");
        Scene s = new Scene().room(0);
        for (int i = 0; i < 6; i++) {
            s.text(0, 0, "f" + i).due(0, 0, OPEN, 0, 7).due(0, 0, CLOSE, 0).dueCounts(i + 1, i + 1, 0, 0);
        }
        s.text(0, 8, "g").refused(NOSPC, 0, OPEN, 8, 7).due(0, 0, OPEN, 0, 7).due(0, 0, CLOSE, 0);
        s.due(0, 0, UNLINK, 0).dueCounts(5, 5, 0, 0).due(0, 0, OPEN, 8, 7).dueCounts(6, 6, 1, 0);
    }

    private static void namelessFilesCount() {
        Due.says("A file is gone when it has neither a name nor an open.");
        Scene s = new Scene().room(0, 1).text(0, 0, "f").text(1, 0, "f");
        for (int i = 0; i < 6; i++) {
            s.due(i % 5, i / 5, OPEN, 0, 7).due(0, i / 5, UNLINK, 0).dueCounts(i + 1, 0, i + 1, 0);
        }
        s.refused(NOSPC, 1, OPEN, 0, 7).due(0, 0, CLOSE, 3).dueCounts(5, 0, 5, 0).due(1, 1, OPEN, 0, 7)
            .dueCounts(6, 1, 6, 0);
    }

    private static void fileBytes() {
        Due.says("each with 0 .. 24 bytes");
        Scene s = withFile().dueStat(0, 0, 0, 1, 1).due(23, 0, WRITE, 0, 0, 23).dueStat(0, 0, 23, 1, 1);
        s.due(1, 0, WRITE, 0, 0, 2).dueStat(0, 0, 24, 1, 1).refused(NOSPC, 0, WRITE, 0, 0, 1);
        s.due(1, 0, OPEN, 0, 10).dueStat(0, 0, 0, 1, 2).due(24, 0, WRITE, 1, 0, 64).dueStat(0, 0, 24, 1, 2);
    }

    private static void eightNames() {
        Due.says("NAMES: at most 8");
        Scene s = withFile();
        for (int i = 0; i < 7; i++) {
            s.text(0, 8, "n" + i).due(0, 0, LINK, 0, 8).dueCounts(1, i + 2, 1, 0);
        }
        s.text(0, 16, "o").refused(NOSPC, 0, LINK, 0, 16).refused(NOSPC, 0, OPEN, 16, 7);
        s.due(0, 0, RENAME, 0, 16).dueCounts(1, 8, 1, 0).due(0, 0, UNLINK, 16).due(1, 0, OPEN, 16, 7)
            .dueCounts(2, 8, 2, 0);
    }

    private static void nameBytes() {
        Due.says("each a string of 1 .. 7 bytes");
        Scene s = withFile().text(0, 8, "abcdefg").text(0, 16, "hijklmno").due(0, 0, LINK, 0, 8)
            .due(0, 0, RENAME, 8, 17);
        s.refused(FAULT, 0, LINK, 0, 16).refused(NOENT, 0, LINK, 0, 1).due(7, 0, LIST, 1, 32).due(1, 0, LIST, 0, 32);
        s.due(1, 0, OPEN, 8, 7).due(7, 0, LIST, 0, 32).dueText(0, 32, "abcdefg\0").dueCounts(2, 3, 2, 0);
    }

    private static void noTwoAlike() {
        Due.says("no two alike");
        Scene s = withFile().text(0, 8, "g").due(1, 0, OPEN, 0, 7).dueCounts(1, 1, 2, 0).refused(EXIST, 0, LINK, 0, 0);
        s.due(2, 0, OPEN, 8, 7).refused(EXIST, 0, LINK, 0, 8).refused(EXIST, 0, LINK, 8, 0).dueCounts(2, 2, 3, 0);
        s.due(0, 0, RENAME, 0, 8).dueCounts(2, 1, 3, 0).refused(NOENT, 0, LIST, 1, 32);
    }

    private static void severalNamesOrNone() {
        Due.says("a file may have several, or none");
        Scene s = withFile();
        for (int i = 0; i < 7; i++) {
            s.text(0, 8, "n" + i).due(0, 0, LINK, 0, 8).dueStat(0, 8, 0, i + 2, 1);
        }
        for (int i = 0; i < 7; i++) {
            s.text(0, 8, "n" + i).due(0, 0, UNLINK, 8).dueStat(0, 0, 0, 7 - i, 1);
        }
        s.due(0, 0, UNLINK, 0).dueCounts(1, 0, 1, 0).due(3, 0, WRITE, 0, 0, 3).due(0, 0, SEEK, 0, 0)
            .due(3, 0, READ, 0, 32, 9);
    }

    private static void eightOpens() {
        Due.says("OPENS: at most 8");
        Scene s = withFile();
        for (int i = 1; i < 8; i++) {
            s.due(i % 5, i / 5, OPEN, 0, 7).dueCounts(1, 1, i + 1, 0);
        }
        s.refused(NFILE, 1, OPEN, 0, 7).refused(NFILE, 2, OPEN, 0, 1).refused(NFILE, 2, PIPE, 32)
            .dueStat(0, 0, 0, 1, 8);
        s.due(3, 1, DUP, 0).due(4, 1, DUP, 0).dueCounts(1, 1, 8, 0).due(0, 1, CLOSE, 0).refused(NFILE, 2, OPEN, 0, 1);
        s.due(0, 0, CLOSE, 2).dueCounts(1, 1, 7, 0).due(0, 2, OPEN, 0, 1).dueCounts(1, 1, 8, 0);
    }

    private static void positions() {
        Due.says("with a POSITION 0 .. 24");
        Scene s = withFile().due(24, 0, WRITE, 0, 0, 24).refused(NOSPC, 0, WRITE, 0, 0, 1).due(0, 0, READ, 0, 0, 1);
        s.due(0, 0, SEEK, 0, 0).due(24, 0, READ, 0, 0, 64).due(0, 0, READ, 0, 0, 64).refused(NOSPC, 0, WRITE, 0, 0, 1);
        s.due(24, 0, SEEK, 0, 24).refused(INVAL, 0, SEEK, 0, 25).refused(INVAL, 0, SEEK, 0, -1).due(0, 0, SEEK, 0, 0);
    }

    private static void fiveDescriptors() {
        Due.says("A process has DESCRIPTORS 0 .. 4, each closed or standing for an open");
        Scene s = withFile();
        for (int d = 1; d < 5; d++) {
            s.refused(BADF, 0, CLOSE, d).refused(BADF, 0, SEEK, d, 0).due(d, 0, OPEN, 0, 3).due(d, 0, SEEK, d, d);
        }
        s.refused(MFILE, 0, OPEN, 0, 3).refused(MFILE, 0, DUP, 0).refused(MFILE, 0, PIPE, 32)
            .refused(BADF, 0, CLOSE, 5);
        s.dueZero(CLOSE, 0, 1, 2, 3, 4).dueDescriptors(0, 0).dueCounts(1, 1, 0, 0);
    }

    private static void processesHaveTheirOwn() {
        Due.says("A process has DESCRIPTORS 0 .. 4");
        Scene s = withFile();
        for (int d = 1; d < 5; d++) {
            s.due(d, 0, DUP, 0);
        }
        s.due(0, 1, OPEN, 0, 3).due(0, 2, OPEN, 0, 3);
        s.refused(BADF, 0, CLOSE, 5).refused(BADF, 1, CLOSE, -1).refused(BADF, 1, CLOSE, 5).refused(BADF, 2, CLOSE, -5);
        s.due(0, 1, CLOSE, 0).dueDescriptors(0, 5).dueDescriptors(1, 0).dueDescriptors(2, 1).refused(BADF, 1, CLOSE, 0);
    }

    private static void openIsGone() {
        Due.says("several of them may stand for one open, which is gone when none does.");
        Scene s = withFile().due(1, 0, DUP, 0).due(2, 0, DUP, 1).dueCounts(1, 1, 1, 0).dueStat(0, 0, 0, 1, 1);
        s.due(0, 0, CLOSE, 1).dueCounts(1, 1, 1, 0).due(0, 0, CLOSE, 0).dueCounts(1, 1, 1, 0).due(3, 0, WRITE, 2, 0, 3);
        s.due(0, 0, CLOSE, 2).dueCounts(1, 1, 0, 0).refused(BADF, 0, WRITE, 2, 0, 3);
        s.due(0, 0, OPEN, 0, 3).dueStat(0, 0, 3, 1, 1);
    }

    private static void fileIsGone() {
        Due.says("A file is gone when it has neither a name nor an open.");
        withFile().due(0, 0, CLOSE, 0).dueCounts(1, 1, 0, 0).due(0, 0, UNLINK, 0).dueCounts(0, 0, 0, 0);
        withFile().due(0, 0, UNLINK, 0).dueCounts(1, 0, 1, 0).due(0, 0, CLOSE, 0).dueCounts(0, 0, 0, 0);
        Scene s = withFile().text(0, 8, "g").due(0, 0, LINK, 0, 8).due(0, 0, UNLINK, 0).due(0, 0, CLOSE, 0);
        s.dueCounts(1, 1, 0, 0).due(0, 0, UNLINK, 8).dueCounts(0, 0, 0, 0);
        s = withFile().due(1, 0, OPEN, 0, 1).due(0, 0, UNLINK, 0).due(0, 0, CLOSE, 0).dueCounts(1, 0, 1, 0);
        s.due(0, 0, CLOSE, 1).dueCounts(0, 0, 0, 0);
        s = withFile().text(0, 8, "g").due(1, 0, OPEN, 8, 7).due(0, 0, CLOSE, 1).due(0, 0, RENAME, 0, 8);
        s.dueCounts(1, 1, 1, 0).dueStat(0, 8, 0, 1, 1);
        for (int mode = 1; mode <= 3; mode++) {
            s = withFile().due(1, 0, OPEN, 0, mode).due(0, 0, CLOSE, 0).due(0, 0, UNLINK, 0).dueCounts(1, 0, 1, 0);
            s.due(0, 0, OPEN, 0, 7).dueCounts(2, 1, 2, 0).due(3, 0, WRITE, 0, 0, 3).dueStat(0, 0, 3, 1, 1);
            s.due(0, 0, CLOSE, 1).dueCounts(1, 1, 1, 0);
        }
    }

    private static void newFileIsEmpty() {
        Due.says("a file of 0 bytes gets it");
        Scene s = withFile().due(24, 0, WRITE, 0, 0, 24).due(0, 0, CLOSE, 0).due(0, 0, UNLINK, 0).dueCounts(0, 0, 0, 0);
        s.due(0, 0, OPEN, 0, 7).dueStat(0, 0, 0, 1, 1).due(0, 0, READ, 0, 32, 24);
        s.due(23, 0, SEEK, 0, 23).due(1, 0, WRITE, 0, 0, 1).due(0, 0, SEEK, 0, 0).due(24, 0, READ, 0, 32, 24);
        s.dueBytes(0, 32, 0, 0, 0).dueBytes(0, 54, 0, 'f');
    }

    private static void newOpenStartsAgain() {
        Due.says("which stands for a new open of the file then, with the mode A1 & 3 and position 0.");
        Scene s = withFile().due(5, 0, WRITE, 0, 0, 5).due(0, 0, CLOSE, 0).due(0, 0, OPEN, 0, 1)
            .due(5, 0, READ, 0, 32, 9);
        s.refused(BADF, 0, WRITE, 0, 0, 1).due(0, 0, CLOSE, 0).due(0, 0, OPEN, 0, 2).refused(BADF, 0, READ, 0, 32, 1);
        s.due(1, 0, WRITE, 0, 32, 1).dueStat(0, 0, 5, 1, 1);
    }

    private static Scene withPipe() {
        return new Scene().room(0).text(0, 32, "abcdefghijkl").due(0, 0, PIPE, 16);
    }

    private static void pipeBytes() {
        Due.says("0 .. 8 bytes in it");
        Scene s = withPipe().refused(AGAIN, 0, READ, 0, 48, 1).due(7, 0, WRITE, 1, 32, 7).due(1, 0, WRITE, 1, 39, 5);
        s.refused(AGAIN, 0, WRITE, 1, 32, 1).due(8, 0, READ, 0, 48, 16).dueText(0, 48, "abcdefgh\0");
        s.refused(AGAIN, 0, READ, 0, 48, 1).due(8, 0, WRITE, 1, 32, 9).refused(AGAIN, 0, WRITE, 1, 32, 1);
    }

    private static void pipeIsGone() {
        Due.says("and is gone when both ends are");
        Scene s = withPipe().due(2, 0, DUP, 0).due(3, 0, DUP, 1).due(4, 0, WRITE, 3, 32, 4).dueCounts(0, 0, 2, 1);
        s.due(0, 0, CLOSE, 0).dueCounts(0, 0, 2, 1).due(0, 0, CLOSE, 2).dueCounts(0, 0, 1, 1);
        s.due(0, 0, CLOSE, 1).dueCounts(0, 0, 1, 1).due(0, 0, CLOSE, 3).dueCounts(0, 0, 0, 0);
        s = withPipe().due(4, 0, WRITE, 1, 32, 4).due(0, 0, CLOSE, 1).dueCounts(0, 0, 1, 1).due(4, 0, READ, 0, 48, 9);
        s.due(0, 0, CLOSE, 0).dueCounts(0, 0, 0, 0);
    }

    private static void newPipeIsEmpty() {
        Due.says("there is a new pipe");
        Scene s = withPipe().due(8, 0, WRITE, 1, 32, 8).dueZero(CLOSE, 0, 1).due(0, 0, PIPE, 16);
        s.refused(AGAIN, 0, READ, 0, 48, 8).due(2, 0, WRITE, 1, 40, 2).due(2, 0, READ, 0, 48, 8).dueText(0, 48, "ij\0");
        s.due(0, 0, CLOSE, 1).due(0, 0, READ, 0, 48, 8);
    }

    private static void twoPipes() {
        Due.says("there are at most 2.");
        Scene s = withPipe().room(1).due(0, 1, PIPE, 16).dueCounts(0, 0, 4, 2).refused(NFILE, 0, PIPE, 16)
            .refused(NFILE, 1, PIPE, 16);
        s.due(0, 0, CLOSE, 0).due(0, 1, CLOSE, 1).dueCounts(0, 0, 2, 2).refused(NFILE, 0, PIPE, 16);
        s.due(0, 0, CLOSE, 1).dueCounts(0, 0, 1, 1).due(0, 0, PIPE, 16).dueCounts(0, 0, 3, 2)
            .refused(NFILE, 1, PIPE, 16);
    }

    private static void leastFree() {
        Due.says("\"the least free\" is always taken.");
        Scene s = withFile().due(1, 0, DUP, 0).due(2, 0, OPEN, 0, 1).due(3, 0, DUP, 2).due(4, 0, OPEN, 0, 2);
        s.dueZero(CLOSE, 3, 1).due(1, 0, OPEN, 0, 1).due(3, 0, DUP, 0).dueZero(CLOSE, 4, 0).due(0, 0, DUP, 1)
            .due(4, 0, OPEN, 0, 1);
        s.dueZero(CLOSE, 4, 2, 1).due(0, 0, PIPE, 32).dueBytes(0, 32, 1, 2).dueZero(CLOSE, 0).due(0, 0, OPEN, 0, 1);
        s.due(0, 1, OPEN, 0, 1);
    }
}
