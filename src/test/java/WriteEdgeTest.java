/** The boundary cases of WRITE (5) and WRITEV (16). */
public final class WriteEdgeTest implements Numbers {
    public static void main(String[] args) {
        sizes();
        wrongOpens();
        faultsOfAllBytes();
        fileErrorsInOrder();
        pipeErrorsInOrder();
        noBytes();
        fullPosition();
        asManyAsFit();
        holesBecomeZero();
        longerIfNeedBe();
        positionMoves();
        pipeWithoutReader();
        pipeIsFull();
        otherPipeIsFull();
        pipeHasRoom();
        rangesSizes();
        rangesWrongOpens();
        pairsReadable();
        pairsOfBytes();
        rangesReadable();
        rangesErrorsInOrder();
        rangesSumIsZero();
        rangesOneBehindTheOther();
        rangesOfManyBytes();
        rangesToPipe();
        Due.end();
    }

    /** Descriptor 0 stands for an open of "f", n bytes of "abcd..." are in it and at 16, the position is n. */
    private static Scene withFile(int n) {
        Scene s = new Scene().room(0).text(0, 0, "f").text(0, 16, "abcdefghijklmnopqrstuvwxyz").due(0, 0, OPEN, 0, 7);
        return s.due(n, 0, WRITE, 0, 16, n);
    }

    /** Descriptors 0 and 1 are the ends of a pipe, n bytes are in it. */
    private static Scene withPipe(int n) {
        return new Scene().room(0).text(0, 16, "abcdefghijkl").due(0, 0, PIPE, 48).due(n, 0, WRITE, 1, 16, n);
    }

    private static Scene dueFile(Scene s, String want) {
        s.dueStat(0, 0, want.length(), 1, 1).due(0, 0, SEEK, 0, 0);
        return s.due(want.length(), 0, READ, 0, 36, 28).dueText(0, 36, want);
    }

    private static void sizes() {
        Due.says("INVAL when A2 is not 0 .. 64");
        for (int n : Numbers.outside(64)) {
            withFile(3).refused(INVAL, 0, WRITE, 0, 0, n);
            withPipe(3).refused(INVAL, 0, WRITE, 1, 0, n);
        }
        withFile(3).due(0, 0, WRITE, 0, 0, 0).due(21, 0, WRITE, 0, 0, 64);
        withPipe(3).due(0, 0, WRITE, 1, 0, 0).due(5, 0, WRITE, 1, 0, 64);
    }

    private static void wrongOpens() {
        Due.says("BADF, also when its open is a reading end or a file's without WRITE");
        Scene s = withFile(3).due(1, 0, OPEN, 0, 1).refused(BADF, 0, WRITE, 1, 16, 1).refused(BADF, 0, WRITE, 1, 16, 0);
        s.due(2, 0, OPEN, 0, 5).refused(BADF, 0, WRITE, 2, 16, 1).due(3, 0, OPEN, 0, 2).due(1, 0, WRITE, 3, 16, 1);
        s.refused(BADF, 0, WRITE, 4, 16, 1).refused(BADF, 0, WRITE, 5, 16, 1).refused(BADF, 0, WRITE, -1, 16, 1);
        withPipe(3).refused(BADF, 0, WRITE, 0, 16, 1).refused(BADF, 0, WRITE, 0, 16, 0)
            .refused(BADF, 0, WRITE, 2, 16, 1);
        withPipe(8).refused(BADF, 0, WRITE, 0, 16, 1).due(0, 0, CLOSE, 1).refused(BADF, 0, WRITE, 0, 16, 1);
    }

    private static void faultsOfAllBytes() {
        Due.says("FAULT when A2 bytes at A1 are not readable");
        withFile(3).due(2, 0, WRITE, 0, 62, 2).refused(FAULT, 0, WRITE, 0, 62, 3).refused(FAULT, 0, WRITE, 0, 63, 2)
            .refused(FAULT, 0, WRITE, 0, 64, 1);
        withFile(23).refused(FAULT, 0, WRITE, 0, 63, 2).due(1, 0, WRITE, 0, 63, 1);
        withFile(3).map(0, 3, 3, 6).refused(FAULT, 0, WRITE, 0, 46, 3).due(2, 0, WRITE, 0, 46, 2);
        withFile(3).map(0, 3, 3, 5).due(3, 0, WRITE, 0, 46, 3);
        withPipe(7).refused(FAULT, 0, WRITE, 1, 63, 2).due(1, 0, WRITE, 1, 63, 1);
    }

    private static void fileErrorsInOrder() {
        Due.says("When several errors would do, the one that is named first below is the result.");
        Scene s = withFile(24).due(1, 0, OPEN, 0, 1).refused(INVAL, 0, WRITE, 1, 64, 65)
            .refused(INVAL, 0, WRITE, 9, 64, -1);
        s.refused(INVAL, 0, WRITE, 0, 0, 65).refused(BADF, 0, WRITE, 1, 64, 1).refused(BADF, 0, WRITE, 5, -1, 64);
        s.refused(FAULT, 0, WRITE, 0, 64, 1).refused(FAULT, 0, WRITE, 0, 63, 2).refused(NOSPC, 0, WRITE, 0, 63, 1);
    }

    private static void pipeErrorsInOrder() {
        Due.says("When several errors would do, the one that is named first below is the result.");
        Scene s = withPipe(8).refused(INVAL, 0, WRITE, 0, 64, 65).refused(BADF, 0, WRITE, 0, 64, 1)
            .refused(FAULT, 0, WRITE, 1, 64, 1);
        s.refused(AGAIN, 0, WRITE, 1, 63, 1).due(0, 0, CLOSE, 0).refused(INVAL, 0, WRITE, 1, 64, 65);
        s.refused(FAULT, 0, WRITE, 1, 64, 1).refused(BROKEN_PIPE, 0, WRITE, 1, 63, 1);
    }

    private static void noBytes() {
        Due.says("0 when A2 is 0.");
        withFile(24).due(0, 0, WRITE, 0, 16, 0).due(0, 0, WRITE, 0, -1, 0).dueStat(0, 0, 24, 1, 1);
        withFile(3).due(9, 0, SEEK, 0, 9).due(0, 0, WRITE, 0, 16, 0).dueStat(0, 0, 3, 1, 1);
        withPipe(8).due(0, 0, WRITE, 1, 16, 0).due(0, 0, CLOSE, 0).due(0, 0, WRITE, 1, 16, 0)
            .due(0, 0, WRITE, 1, 256, 0);
        withPipe(0).due(0, 0, WRITE, 1, 16, 0).refused(AGAIN, 0, READ, 0, 32, 1);
    }

    private static void fullPosition() {
        Due.says("NOSPC when the position is 24");
        withFile(24).refused(NOSPC, 0, WRITE, 0, 16, 1).refused(NOSPC, 0, WRITE, 0, 0, 64);
        withFile(3).due(24, 0, SEEK, 0, 24).refused(NOSPC, 0, WRITE, 0, 16, 1).due(23, 0, SEEK, 0, 23)
            .due(1, 0, WRITE, 0, 16, 1).refused(NOSPC, 0, WRITE, 0, 16, 1);
        withFile(24).due(23, 0, SEEK, 0, 23).due(1, 0, WRITE, 0, 16, 2).refused(NOSPC, 0, WRITE, 0, 16, 2)
            .due(0, 0, SEEK, 0, 0).due(2, 0, WRITE, 0, 16, 2);
    }

    private static void asManyAsFit() {
        Due.says("otherwise as many of the bytes as fit before place 24 come to the places from the position on");
        dueFile(withFile(0).due(23, 0, WRITE, 0, 16, 23), "abcdefghijklmnopqrstuvw");
        dueFile(withFile(0).due(24, 0, WRITE, 0, 16, 24), "abcdefghijklmnopqrstuvwx");
        dueFile(withFile(0).due(24, 0, WRITE, 0, 16, 25), "abcdefghijklmnopqrstuvwx");
        dueFile(withFile(20).due(4, 0, WRITE, 0, 16, 5), "abcdefghijklmnopqrstabcd");
        dueFile(withFile(20).due(4, 0, WRITE, 0, 16, 4), "abcdefghijklmnopqrstabcd");
        dueFile(withFile(20).due(3, 0, WRITE, 0, 16, 3), "abcdefghijklmnopqrstabc");
        dueFile(withFile(0).due(24, 0, WRITE, 0, 0, 64), "f\0\0\0\0\0\0\0\0\0\0\0\0\0\0\0abcdefgh");
        dueFile(withFile(23).due(1, 0, WRITE, 0, 17, 47), "abcdefghijklmnopqrstuvwb");
    }

    private static void holesBecomeZero() {
        Due.says("(places between the file's end and the position become 0)");
        dueFile(withFile(2).due(3, 0, SEEK, 0, 3).due(1, 0, WRITE, 0, 16, 1), "ab\0a");
        dueFile(withFile(2).due(2, 0, SEEK, 0, 2).due(1, 0, WRITE, 0, 16, 1), "aba");
        dueFile(withFile(0).due(23, 0, SEEK, 0, 23).due(1, 0, WRITE, 0, 16, 9), "\0\0\0\0\0\0\0\0\0\0\0\0\0\0\0\0\0\0\0\0\0\0\0a");
        Scene s = withFile(24).due(1, 0, OPEN, 0, 10).due(0, 0, CLOSE, 1).due(2, 0, SEEK, 0, 2)
            .due(2, 0, WRITE, 0, 16, 2);
        dueFile(s.due(6, 0, SEEK, 0, 6).due(1, 0, WRITE, 0, 18, 1), "\0\0ab\0\0c");
        dueFile(withFile(24).due(1, 0, OPEN, 0, 10).due(3, 0, WRITE, 1, 19, 3).due(0, 0, CLOSE, 1).due(5, 0, SEEK, 0, 5).due(1, 0, WRITE, 0, 16, 1), "def\0\0a");
    }

    private static void longerIfNeedBe() {
        Due.says("the file is longer if need be, and the position moves on.");
        dueFile(withFile(6).due(0, 0, SEEK, 0, 0).due(2, 0, WRITE, 0, 20, 2), "efcdef");
        dueFile(withFile(6).due(4, 0, SEEK, 0, 4).due(2, 0, WRITE, 0, 16, 2), "abcdab");
        dueFile(withFile(6).due(5, 0, SEEK, 0, 5).due(2, 0, WRITE, 0, 16, 2), "abcdeab");
        dueFile(withFile(6).due(6, 0, SEEK, 0, 6).due(1, 0, WRITE, 0, 16, 1), "abcdefa");
    }

    private static void positionMoves() {
        Due.says("and the position moves on.");
        dueFile(withFile(0).due(2, 0, WRITE, 0, 16, 2).due(2, 0, WRITE, 0, 16, 2), "abab");
        dueFile(withFile(0).due(1, 0, DUP, 0).due(2, 0, WRITE, 0, 16, 2).due(2, 0, WRITE, 1, 18, 2).due(0, 0, CLOSE, 1), "abcd");
        dueFile(withFile(0).due(1, 0, OPEN, 0, 2).due(2, 0, WRITE, 0, 16, 2).due(1, 0, WRITE, 1, 18, 1).due(0, 0, CLOSE, 1), "cb");
        withFile(6).due(0, 0, SEEK, 0, 0).due(2, 0, WRITE, 0, 16, 2).due(4, 0, READ, 0, 48, 9).dueText(0, 48, "cdef");
    }

    private static void pipeWithoutReader() {
        Due.says("PIPE when its reading end is gone");
        for (int n : new int[] {0, 1, 7, 8}) {
            withPipe(n).due(0, 0, CLOSE, 0).refused(BROKEN_PIPE, 0, WRITE, 1, 16, 1)
                .refused(BROKEN_PIPE, 0, WRITE, 1, 0, 64);
        }
        withPipe(1).due(2, 0, DUP, 0).due(0, 0, CLOSE, 0).due(1, 0, WRITE, 1, 16, 1).due(0, 0, CLOSE, 2)
            .refused(BROKEN_PIPE, 0, WRITE, 1, 16, 1);
        withPipe(1).due(0, 0, PIPE, 50).due(0, 0, CLOSE, 0).refused(BROKEN_PIPE, 0, WRITE, 1, 16, 1)
            .due(1, 0, WRITE, 3, 16, 1);
    }

    private static void pipeIsFull() {
        Due.says("AGAIN when 8 bytes are in it");
        withPipe(7).due(1, 0, WRITE, 1, 16, 1).refused(AGAIN, 0, WRITE, 1, 16, 1).due(1, 0, READ, 0, 32, 1)
            .due(1, 0, WRITE, 1, 16, 1).refused(AGAIN, 0, WRITE, 1, 16, 1);
        withPipe(8).refused(AGAIN, 0, WRITE, 1, 16, 1).refused(AGAIN, 0, WRITE, 1, 0, 64).due(8, 0, READ, 0, 32, 9)
            .due(8, 0, WRITE, 1, 0, 64);
    }

    private static void otherPipeIsFull() {
        Due.says("PIPE when its reading end is gone; AGAIN when 8 bytes are in it");
        Scene s = withPipe(8).due(0, 0, PIPE, 50).refused(AGAIN, 0, WRITE, 1, 16, 1).due(8, 0, WRITE, 3, 16, 9);
        s.refused(AGAIN, 0, WRITE, 3, 16, 1).due(1, 0, READ, 0, 32, 1).due(1, 0, WRITE, 1, 16, 1);
        s.refused(AGAIN, 0, WRITE, 3, 16, 1).due(0, 0, CLOSE, 2).refused(BROKEN_PIPE, 0, WRITE, 3, 16, 1);
        s.refused(AGAIN, 0, WRITE, 1, 16, 1).due(2, 0, READ, 0, 32, 2).due(2, 0, WRITE, 1, 16, 9);
    }

    private static void pipeHasRoom() {
        Due.says("otherwise as many of the first as there is room for.");
        for (int n = 0; n < 8; n++) {
            Scene s = withPipe(n).due(8 - n, 0, WRITE, 1, 20, 9 - n).due(8, 0, READ, 0, 32, 9);
            s.dueText(0, 32, "abcdefgh".substring(0, n) + "efghijkl".substring(0, 8 - n) + "\0");
            withPipe(n).due(8 - n, 0, WRITE, 1, 20, 8 - n).refused(AGAIN, 0, WRITE, 1, 20, 1);
        }
        withPipe(3).due(4, 0, WRITE, 1, 16, 4).due(1, 0, WRITE, 1, 16, 4).due(8, 0, READ, 0, 32, 9)
            .dueText(0, 32, "abcabcda");
    }

    private static void rangesSizes() {
        Due.says("INVAL when A2 is not 0 .. 4");
        for (int pairs : Numbers.outside(4)) {
            withFile(0).bytes(0, 48, 16, 1).refused(INVAL, 0, WRITEV, 0, 48, pairs);
        }
        dueFile(withFile(0).bytes(0, 48, 16, 1, 18, 1, 20, 1, 22, 1, 24, 1).due(0, 0, WRITEV, 0, 48, 0).due(4, 0, WRITEV, 0, 48, 4), "aceg");
    }

    private static void rangesWrongOpens() {
        Due.says("BADF as with READ (WRITE)");
        Scene s = withFile(3).bytes(0, 48, 16, 1).due(1, 0, OPEN, 0, 1).refused(BADF, 0, WRITEV, 1, 48, 1)
            .refused(BADF, 0, WRITEV, 1, 48, 0);
        s.refused(BADF, 0, WRITEV, 2, 48, 1).refused(BADF, 0, WRITEV, 5, 48, 1).refused(BADF, 0, WRITEV, -1, 48, 0)
            .due(1, 0, WRITEV, 0, 48, 1);
        withPipe(3).bytes(0, 40, 16, 1).refused(BADF, 0, WRITEV, 0, 40, 1).refused(BADF, 0, WRITEV, 0, 40, 0)
            .due(1, 0, WRITEV, 1, 40, 1);
    }

    private static void pairsReadable() {
        Due.says("FAULT when 2 * A2 bytes at A1 are not readable");
        Scene s = withFile(3).map(0, 15, 15, 5).due(0, 0, WRITEV, 0, 248, 4).refused(FAULT, 0, WRITEV, 0, 249, 4);
        s.due(0, 0, WRITEV, 0, 254, 1).refused(FAULT, 0, WRITEV, 0, 255, 1).refused(FAULT, 0, WRITEV, 0, 256, 1)
            .refused(FAULT, 0, WRITEV, 0, -1, 1);
        s.refused(FAULT, 0, WRITEV, 0, MOST, 1).refused(FAULT, 0, WRITEV, 0, MOST - 6, 4)
            .refused(FAULT, 0, WRITEV, 0, LEAST, 4);
        s.due(0, 0, WRITEV, 0, 56, 4).refused(FAULT, 0, WRITEV, 0, 57, 4).refused(FAULT, 0, WRITEV, 0, 58, 4)
            .due(0, 0, WRITEV, 0, 58, 3);
        withFile(3).map(0, 3, 3, 6).refused(FAULT, 0, WRITEV, 0, 46, 2).refused(FAULT, 0, WRITEV, 0, 47, 1)
            .due(0, 0, WRITEV, 0, 46, 1);
        withFile(3).due(0, 0, WRITEV, 0, 64, 0).due(0, 0, WRITEV, 0, -1, 0).due(0, 0, WRITEV, 0, MOST, 0);
    }

    private static void pairsOfBytes() {
        Due.says("they are pairs of an address and a length, both 0 .. 255 (A2 0: none);");
        String fromOne = "\0".repeat(15) + "abcdefghi";
        for (int length = 0; length <= 255; length++) {
            int n = Math.min(length, 24);
            Scene s = withFile(0).moreRoom().bytes(0, 48, 1, length).due(n, 0, WRITEV, 0, 48, 1);
            dueFile(s, fromOne.substring(0, n));
        }
        for (int address = 64; address <= 255; address++) {
            String text = "uvwxyz".substring(0, Math.min(256 - address, 6));
            Scene s = withFile(0).moreRoom().bytes(0, address, text.chars().toArray()).bytes(0, 48, address, text.length());
            dueFile(s.due(text.length(), 0, WRITEV, 0, 48, 1), text);
        }
        dueFile(withFile(0).bytes(0, 48, 16, 1).due(0, 0, WRITEV, 0, 48, 0), "");
    }

    private static void rangesReadable() {
        Due.says("FAULT when one of these ranges is not writable (readable).");
        Scene s = withFile(3).map(0, 15, 15, 5).bytes(0, 255, 'z').bytes(0, 48, 255, 1, 250, 6);
        dueFile(s.due(7, 0, WRITEV, 0, 48, 2), "abcz\0\0\0\0\0z");
        s = withFile(3).map(0, 15, 15, 5).bytes(0, 48, 16, 1, 255, 2).refused(FAULT, 0, WRITEV, 0, 48, 2)
            .due(1, 0, WRITEV, 0, 48, 1);
        s.bytes(0, 48, 64, 1).refused(FAULT, 0, WRITEV, 0, 48, 1).bytes(0, 48, 63, 2)
            .refused(FAULT, 0, WRITEV, 0, 48, 1).bytes(0, 48, 63, 1).due(1, 0, WRITEV, 0, 48, 1);
        s = withFile(20).bytes(0, 48, 0, 65).refused(FAULT, 0, WRITEV, 0, 48, 1).bytes(0, 48, 0, 255)
            .refused(FAULT, 0, WRITEV, 0, 48, 1);
        s.bytes(0, 48, 16, 6, 64, 1).refused(FAULT, 0, WRITEV, 0, 48, 2).due(4, 0, WRITEV, 0, 48, 1);
        for (int bad = 0; bad < 4; bad++) {
            s = withFile(3).map(0, 3, 3, 6).bytes(0, 20, 32, 1, 33, 1, 34, 1, 35, 1).bytes(0, 20 + 2 * bad, 48, 1);
            s.refused(FAULT, 0, WRITEV, 0, 20, 4).map(0, 3, 3, 5).due(4, 0, WRITEV, 0, 20, 4);
        }
    }

    private static void rangesErrorsInOrder() {
        Due.says("When several errors would do, the one that is named first below is the result.");
        Scene s = withFile(24).due(1, 0, OPEN, 0, 1).bytes(0, 48, 64, 1, 16, 1).refused(INVAL, 0, WRITEV, 1, 64, 5)
            .refused(INVAL, 0, WRITEV, 9, 48, -1);
        s.refused(BADF, 0, WRITEV, 1, 64, 1).refused(BADF, 0, WRITEV, 4, 48, 1).refused(BADF, 0, WRITEV, 5, 64, 0);
        s.refused(FAULT, 0, WRITEV, 0, 64, 1).refused(FAULT, 0, WRITEV, 0, 48, 1).refused(FAULT, 0, WRITEV, 0, 48, 2)
            .refused(NOSPC, 0, WRITEV, 0, 50, 1);
        s = withPipe(8).bytes(0, 40, 64, 1, 16, 1).refused(FAULT, 0, WRITEV, 1, 40, 2)
            .refused(AGAIN, 0, WRITEV, 1, 42, 1);
        s.due(0, 0, CLOSE, 0).refused(FAULT, 0, WRITEV, 1, 40, 2).refused(BROKEN_PIPE, 0, WRITEV, 1, 42, 1);
    }

    private static void rangesSumIsZero() {
        Due.says("from \"0 when it is 0\" on.");
        withFile(24).bytes(0, 48, 255, 0, 16, 0).due(0, 0, WRITEV, 0, 48, 2).due(0, 0, WRITEV, 0, 48, 1)
            .due(0, 0, WRITEV, 0, 48, 0).dueStat(0, 0, 24, 1, 1);
        withFile(3).bytes(0, 48, 255, 0).due(9, 0, SEEK, 0, 9).due(0, 0, WRITEV, 0, 48, 1).dueStat(0, 0, 3, 1, 1);
        Scene s = withPipe(8).bytes(0, 40, 255, 0, 64, 0, 0, 0, 16, 0).due(0, 0, WRITEV, 1, 40, 4).due(0, 0, CLOSE, 0)
            .due(0, 0, WRITEV, 1, 40, 4);
        s.due(0, 0, WRITEV, 1, 40, 0).bytes(0, 46, 16, 1).refused(BROKEN_PIPE, 0, WRITEV, 1, 40, 4);
    }

    private static void rangesOneBehindTheOther() {
        Due.says("with the ranges one behind the other in place of the bytes at A1, the sum of their lengths in place of A2");
        dueFile(withFile(0).bytes(0, 48, 20, 2, 255, 0, 16, 3, 16, 1).due(6, 0, WRITEV, 0, 48, 4), "efabca");
        dueFile(withFile(22).bytes(0, 48, 20, 1, 16, 4).due(2, 0, WRITEV, 0, 48, 2).refused(NOSPC, 0, WRITEV, 0, 48, 2), "abcdefghijklmnopqrstuvea");
        dueFile(withFile(2).bytes(0, 48, 20, 1, 16, 1).due(4, 0, SEEK, 0, 4).due(2, 0, WRITEV, 0, 48, 2), "ab\0\0ea");
        dueFile(withFile(0).bytes(0, 48, 16, 2, 17, 2).due(4, 0, WRITEV, 0, 48, 2), "abbc");
    }

    private static void rangesOfManyBytes() {
        Due.says("(which may be more than 64 here)");
        dueFile(withFile(0).bytes(0, 4, 16, 1, 15, 49, 0, 64, 0, 64).due(24, 0, WRITEV, 0, 4, 4), "a\0abcdefghijklmnopqrstuv");
        dueFile(withFile(0).bytes(0, 4, 16, 48, 16, 48).due(24, 0, WRITEV, 0, 4, 2), "abcdefghijklmnopqrstuvwx");
        Scene s = withFile(23).bytes(0, 4, 17, 1);
        for (int page = 4; page < 16; page++) {
            s.map(0, page, page, 5);
        }
        s.bytes(0, 4, 17, 1, 1, 255, 0, 255, 0, 255);
        dueFile(s.due(1, 0, WRITEV, 0, 4, 4), "abcdefghijklmnopqrstuvwb");
        s.due(0, 0, SEEK, 0, 0).bytes(0, 6, 2, 255).refused(FAULT, 0, WRITEV, 0, 4, 4);
    }

    private static void rangesToPipe() {
        Due.says("Then as READ (WRITE)");
        Scene s = withPipe(3).bytes(0, 40, 20, 2, 16, 2).due(4, 0, WRITEV, 1, 40, 2).due(1, 0, WRITEV, 1, 40, 2)
            .refused(AGAIN, 0, WRITEV, 1, 40, 2);
        s.due(8, 0, READ, 0, 32, 8).dueText(0, 32, "abcefabe");
        withPipe(0).bytes(0, 40, 16, 5, 20, 3).due(8, 0, WRITEV, 1, 40, 2).due(8, 0, READ, 0, 48, 9)
            .dueText(0, 48, "abcdeefg\0");
        withPipe(0).bytes(0, 40, 16, 5, 20, 4).due(8, 0, WRITEV, 1, 40, 2).due(0, 0, CLOSE, 0)
            .refused(BROKEN_PIPE, 0, WRITEV, 1, 40, 2);
    }
}
