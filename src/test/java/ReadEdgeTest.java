/** The boundary cases of READ (4) and READV (15). */
public final class ReadEdgeTest implements Numbers {
    public static void main(String[] args) {
        sizes();
        wrongOpens();
        faultsOfAllBytes();
        errorsInOrder();
        noBytes();
        fromFile();
        atTheEnd();
        positionMoves();
        pipeWithoutBytes();
        otherPipeWithoutBytes();
        fromPipe();
        rangesSizes();
        rangesWrongOpens();
        pairsReadable();
        pairsOfBytes();
        rangesWritable();
        rangesErrorsInOrder();
        rangesSumIsZero();
        rangesOneBehindTheOther();
        rangesOfManyBytes();
        rangesFromPipe();
        pairsAreReadFirst();
        laterOneStays();
        Due.end();
    }

    /** Descriptor 0 stands for an open of "f" with "abcdef" in it, at position 0. */
    private static Scene withFile() {
        Scene s = new Scene().room(0).text(0, 0, "f").text(0, 16, "abcdef").due(0, 0, OPEN, 0, 7);
        return s.due(6, 0, WRITE, 0, 16, 6).due(0, 0, SEEK, 0, 0);
    }

    /** Descriptors 0 and 1 are the ends of a pipe, n bytes of "abcdefgh" are in it. */
    private static Scene withPipe(int n) {
        return new Scene().room(0).text(0, 16, "abcdefgh").due(0, 0, PIPE, 48).due(n, 0, WRITE, 1, 16, n);
    }

    private static void sizes() {
        Due.says("INVAL when A2 is not 0 .. 64");
        for (int n : Numbers.outside(64)) {
            withFile().refused(INVAL, 0, READ, 0, 0, n);
            withPipe(3).refused(INVAL, 0, READ, 0, 0, n);
        }
        withFile().due(0, 0, READ, 0, 0, 0).due(6, 0, READ, 0, 0, 64).dueText(0, 0, "abcdef");
        withPipe(3).due(0, 0, READ, 0, 0, 0).due(3, 0, READ, 0, 0, 64).dueText(0, 0, "abc");
    }

    private static void wrongOpens() {
        Due.says("BADF, also when its open is a writing end or a file's without READ");
        Scene s = withFile().due(1, 0, OPEN, 0, 2).refused(BADF, 0, READ, 1, 32, 1).refused(BADF, 0, READ, 1, 32, 0);
        s.due(2, 0, OPEN, 0, 6).refused(BADF, 0, READ, 2, 32, 1).due(3, 0, OPEN, 0, 1).due(1, 0, READ, 3, 32, 1);
        s.refused(BADF, 0, READ, 4, 32, 1).refused(BADF, 0, READ, 5, 32, 1).refused(BADF, 0, READ, -1, 32, 1);
        withPipe(3).refused(BADF, 0, READ, 1, 32, 1).refused(BADF, 0, READ, 1, 32, 0).refused(BADF, 0, READ, 2, 32, 1)
            .due(1, 0, READ, 0, 32, 1);
        withPipe(0).refused(BADF, 0, READ, 1, 32, 1).due(0, 0, CLOSE, 0).refused(BADF, 0, READ, 1, 32, 1);
    }

    private static void faultsOfAllBytes() {
        Due.says("FAULT when A2 bytes at A1 (all, also if fewer come) are not writable");
        withFile().due(6, 0, READ, 0, 54, 10).dueText(0, 54, "abcdef");
        withFile().refused(FAULT, 0, READ, 0, 54, 11).refused(FAULT, 0, READ, 0, 55, 10)
            .refused(FAULT, 0, READ, 0, 64, 1);
        withFile().due(6, 0, SEEK, 0, 6).refused(FAULT, 0, READ, 0, 63, 2).due(0, 0, READ, 0, 63, 1);
        withFile().map(0, 3, 3, 5).refused(FAULT, 0, READ, 0, 42, 7).due(6, 0, READ, 0, 42, 6).dueText(0, 42, "abcdef");
        withFile().map(0, 3, 3, 6).due(6, 0, READ, 0, 42, 7).dueText(0, 42, "abcdef");
        withPipe(2).refused(FAULT, 0, READ, 0, 62, 3).due(2, 0, READ, 0, 62, 2).dueText(0, 62, "ab");
        withPipe(0).refused(FAULT, 0, READ, 0, 63, 2).refused(AGAIN, 0, READ, 0, 63, 1);
        withPipe(0).due(0, 0, CLOSE, 1).refused(FAULT, 0, READ, 0, 63, 2).due(0, 0, READ, 0, 63, 1);
    }

    private static void errorsInOrder() {
        Due.says("When several errors would do, the one that is named first below is the result.");
        Scene s = withPipe(0).refused(INVAL, 0, READ, 1, 63, 65).refused(INVAL, 0, READ, 9, 64, -1)
            .refused(INVAL, 0, READ, 0, 0, 65);
        s.refused(BADF, 0, READ, 1, 63, 2).refused(BADF, 0, READ, 9, 256, 64).refused(BADF, 0, READ, 2, -1, 1);
        s.refused(FAULT, 0, READ, 0, 63, 2).refused(FAULT, 0, READ, 0, -1, 1).refused(AGAIN, 0, READ, 0, 0, 64);
    }

    private static void noBytes() {
        Due.says("0 when A2 is 0.");
        withFile().due(0, 0, READ, 0, 32, 0).due(0, 0, READ, 0, -1, 0).due(6, 0, READ, 0, 32, 9);
        withPipe(0).due(0, 0, READ, 0, 32, 0).due(0, 0, READ, 0, 256, 0);
        withPipe(3).due(0, 0, READ, 0, 32, 0).due(3, 0, READ, 0, 32, 9).dueText(0, 32, "abc");
    }

    private static void fromFile() {
        Due.says("as many bytes as there are from the position on (none at or behind the end), at most A2, are put there");
        withFile().bytes(0, 32, 9, 9, 9, 9, 9, 9, 9, 9).due(5, 0, READ, 0, 32, 5)
            .dueBytes(0, 32, 'a', 'b', 'c', 'd', 'e', 9);
        withFile().bytes(0, 32, 9, 9, 9, 9, 9, 9, 9, 9).due(6, 0, READ, 0, 32, 6)
            .dueBytes(0, 32, 'a', 'b', 'c', 'd', 'e', 'f', 9);
        withFile().bytes(0, 32, 9, 9, 9, 9, 9, 9, 9, 9).due(6, 0, READ, 0, 32, 7)
            .dueBytes(0, 32, 'a', 'b', 'c', 'd', 'e', 'f', 9);
        withFile().bytes(0, 32, 9, 9, 9).due(5, 0, SEEK, 0, 5).due(1, 0, READ, 0, 32, 7).dueBytes(0, 32, 'f', 9);
        withFile().due(24, 0, WRITE, 0, 0, 24).due(0, 0, SEEK, 0, 0).due(24, 0, READ, 0, 32, 25)
            .dueText(0, 48, "abcdef");
        withFile().due(24, 0, WRITE, 0, 0, 24).due(0, 0, SEEK, 0, 0).due(24, 0, READ, 0, 32, 24)
            .dueText(0, 48, "abcdef");
        withFile().due(24, 0, WRITE, 0, 0, 24).due(0, 0, SEEK, 0, 0).due(23, 0, READ, 0, 32, 23)
            .due(1, 0, READ, 0, 32, 2);
    }

    private static void atTheEnd() {
        Due.says("(none at or behind the end)");
        for (int position : new int[] {6, 7, 23, 24}) {
            Scene s = withFile().bytes(0, 32, 9, 9).due(position, 0, SEEK, 0, position).due(0, 0, READ, 0, 32, 9)
                .dueBytes(0, 32, 9, 9);
            s.due(0, 0, READ, 0, 32, 1).dueStat(0, 0, 6, 1, 1);
        }
        withFile().due(24, 0, WRITE, 0, 0, 64).due(0, 0, READ, 0, 32, 1).due(0, 0, READ, 0, 0, 64);
        new Scene().room(0).text(0, 0, "f").due(0, 0, OPEN, 0, 5).due(0, 0, READ, 0, 32, 1).due(0, 0, READ, 0, 0, 64);
    }

    private static void positionMoves() {
        Due.says("and the position moves on by so many.");
        Scene s = withFile().due(2, 0, READ, 0, 32, 2).due(2, 0, READ, 0, 32, 2).dueText(0, 32, "cd")
            .due(2, 0, READ, 0, 32, 32);
        s.due(3, 0, WRITE, 0, 16, 3).dueStat(0, 0, 9, 1, 1);
        withFile().due(8, 0, SEEK, 0, 8).due(0, 0, READ, 0, 32, 9).due(1, 0, WRITE, 0, 16, 1).dueStat(0, 0, 9, 1, 1);
        s = withFile().due(1, 0, OPEN, 0, 1).due(2, 0, DUP, 1).due(4, 0, READ, 1, 32, 4).due(2, 0, READ, 2, 32, 9);
        s.dueText(0, 32, "ef").due(6, 0, READ, 0, 32, 9);
    }

    private static void pipeWithoutBytes() {
        Due.says("From a pipe with no byte in it: AGAIN when its writing end is there, 0 when not");
        withPipe(0).refused(AGAIN, 0, READ, 0, 32, 1).refused(AGAIN, 0, READ, 0, 0, 64).due(0, 0, CLOSE, 1)
            .due(0, 0, READ, 0, 32, 1).due(0, 0, READ, 0, 0, 64);
        withPipe(0).due(2, 0, DUP, 1).due(0, 0, CLOSE, 1).refused(AGAIN, 0, READ, 0, 32, 1).due(0, 0, CLOSE, 2)
            .due(0, 0, READ, 0, 32, 1);
        Scene s = withPipe(2).due(2, 0, READ, 0, 32, 2).refused(AGAIN, 0, READ, 0, 32, 1).due(0, 0, PIPE, 50)
            .due(0, 0, CLOSE, 3);
        s.due(0, 0, READ, 2, 32, 1).refused(AGAIN, 0, READ, 0, 32, 1);
        withPipe(8).due(0, 0, CLOSE, 1).due(7, 0, READ, 0, 32, 7).due(1, 0, READ, 0, 32, 7).due(0, 0, READ, 0, 32, 7);
    }

    private static void otherPipeWithoutBytes() {
        Due.says("AGAIN when its writing end is there, 0 when not");
        Scene s = withPipe(0).due(0, 0, PIPE, 50).refused(AGAIN, 0, READ, 2, 32, 1).due(0, 0, CLOSE, 1);
        s.due(0, 0, READ, 0, 32, 1).refused(AGAIN, 0, READ, 2, 32, 1).due(2, 0, WRITE, 3, 16, 2);
        s.due(0, 0, READ, 0, 32, 1).due(2, 0, READ, 2, 32, 9).dueText(0, 32, "ab\0").refused(AGAIN, 0, READ, 2, 32, 1);
        s.due(0, 0, CLOSE, 3).due(0, 0, READ, 2, 32, 1);
    }

    private static void fromPipe() {
        Due.says("otherwise the bytes that came first, at most A2, are taken out of it and put there.");
        withPipe(8).bytes(0, 40, 9, 9).due(8, 0, READ, 0, 32, 8).dueText(0, 32, "abcdefgh").dueBytes(0, 40, 9)
            .refused(AGAIN, 0, READ, 0, 32, 1);
        withPipe(8).bytes(0, 40, 9, 9).due(8, 0, READ, 0, 32, 9).dueText(0, 32, "abcdefgh").dueBytes(0, 40, 9)
            .refused(AGAIN, 0, READ, 0, 32, 1);
        withPipe(8).due(7, 0, READ, 0, 32, 7).dueText(0, 32, "abcdefg\0").due(1, 0, READ, 0, 32, 32)
            .dueText(0, 32, "hb");
        Scene s = withPipe(8).due(1, 0, READ, 0, 32, 1).due(1, 0, WRITE, 1, 16, 1).due(8, 0, READ, 0, 32, 9)
            .dueText(0, 32, "bcdefgha");
        s.due(1, 0, WRITE, 1, 17, 1).due(1, 0, READ, 0, 32, 9).dueText(0, 32, "bc").refused(AGAIN, 0, READ, 0, 32, 9);
    }

    private static void rangesSizes() {
        Due.says("INVAL when A2 is not 0 .. 4");
        for (int pairs : Numbers.outside(4)) {
            withFile().bytes(0, 40, 32, 1).refused(INVAL, 0, READV, 0, 40, pairs);
        }
        Scene s = withFile().bytes(0, 40, 32, 1, 34, 1, 36, 1, 38, 1, 32, 0).due(0, 0, READV, 0, 40, 0);
        s.due(4, 0, READV, 0, 40, 4).dueText(0, 32, "a\0b\0c\0d").due(1, 0, READV, 0, 40, 1).dueText(0, 32, "e");
    }

    private static void rangesWrongOpens() {
        Due.says("BADF as with READ (WRITE)");
        Scene s = withFile().bytes(0, 40, 32, 1).due(1, 0, OPEN, 0, 2).refused(BADF, 0, READV, 1, 40, 1)
            .refused(BADF, 0, READV, 1, 40, 0);
        s.refused(BADF, 0, READV, 2, 40, 1).refused(BADF, 0, READV, 5, 40, 1).refused(BADF, 0, READV, -1, 40, 0)
            .due(1, 0, READV, 0, 40, 1);
        withPipe(3).bytes(0, 40, 32, 1).refused(BADF, 0, READV, 1, 40, 1).refused(BADF, 0, READV, 1, 40, 0)
            .due(1, 0, READV, 0, 40, 1);
    }

    private static void pairsReadable() {
        Due.says("FAULT when 2 * A2 bytes at A1 are not readable");
        Scene s = withFile().map(0, 15, 15, 7).due(0, 0, READV, 0, 248, 4).refused(FAULT, 0, READV, 0, 249, 4);
        s.due(0, 0, READV, 0, 254, 1).refused(FAULT, 0, READV, 0, 255, 1).refused(FAULT, 0, READV, 0, 256, 1)
            .refused(FAULT, 0, READV, 0, -1, 1);
        s.refused(FAULT, 0, READV, 0, MOST, 1).refused(FAULT, 0, READV, 0, MOST - 6, 4)
            .refused(FAULT, 0, READV, 0, LEAST, 4);
        s.due(0, 0, READV, 0, 56, 4).refused(FAULT, 0, READV, 0, 57, 4).refused(FAULT, 0, READV, 0, 58, 4)
            .due(0, 0, READV, 0, 58, 3);
        withFile().map(0, 3, 3, 5).due(0, 0, READV, 0, 46, 2);
        withFile().map(0, 3, 3, 6).refused(FAULT, 0, READV, 0, 46, 2).refused(FAULT, 0, READV, 0, 47, 1)
            .due(0, 0, READV, 0, 46, 1);
        withFile().due(0, 0, READV, 0, 64, 0).due(0, 0, READV, 0, -1, 0).due(0, 0, READV, 0, MOST, 0);
    }

    private static void pairsOfBytes() {
        Due.says("they are pairs of an address and a length, both 0 .. 255 (A2 0: none);");
        for (int length = 0; length <= 255; length++) {
            int n = Math.min(length, 6);
            Scene s = withFile().moreRoom().bytes(0, 40, 1, length).due(n, 0, READV, 0, 40, 1);
            s.dueText(0, 1, "abcdef".substring(0, n)).dueByte(0, 1 + n, 0);
        }
        for (int address = 0; address <= 255; address++) {
            int n = Math.min(256 - address, 6);
            Scene s = withFile().moreRoom().bytes(0, 40, address, n).due(n, 0, READV, 0, 40, 1);
            s.dueText(0, address, "abcdef".substring(0, n));
        }
        withFile().bytes(0, 40, 32, 1).due(0, 0, READV, 0, 40, 0).dueByte(2, 0, 0).due(6, 0, READ, 0, 32, 6);
    }

    private static void rangesWritable() {
        Due.says("FAULT when one of these ranges is not writable (readable).");
        Scene s = withFile().map(0, 15, 15, 7).bytes(0, 40, 255, 1, 250, 6).due(6, 0, READV, 0, 40, 2)
            .dueByte(15, 15, 'a').dueByte(15, 10, 'b');
        s.due(0, 0, SEEK, 0, 0).bytes(0, 40, 32, 1, 255, 2).refused(FAULT, 0, READV, 0, 40, 2)
            .due(1, 0, READV, 0, 40, 1);
        s.bytes(0, 40, 64, 1).refused(FAULT, 0, READV, 0, 40, 1).bytes(0, 40, 63, 2).refused(FAULT, 0, READV, 0, 40, 1);
        s.bytes(0, 40, 63, 1).due(1, 0, READV, 0, 40, 1).bytes(0, 40, 0, 64).due(4, 0, READV, 0, 40, 1);
        s = withFile().bytes(0, 40, 0, 65).refused(FAULT, 0, READV, 0, 40, 1).bytes(0, 40, 0, 255)
            .refused(FAULT, 0, READV, 0, 40, 1);
        s.bytes(0, 40, 32, 6, 40, 6, 16, 6, 64, 1).refused(FAULT, 0, READV, 0, 40, 4).due(6, 0, READV, 0, 40, 3);
        for (int bad = 0; bad < 4; bad++) {
            s = withFile().map(0, 3, 3, 5).bytes(0, 20, 32, 1, 33, 1, 34, 1, 35, 1).bytes(0, 20 + 2 * bad, 48, 1);
            s.refused(FAULT, 0, READV, 0, 20, 4).map(0, 3, 3, 6).due(4, 0, READV, 0, 20, 4);
        }
    }

    private static void rangesErrorsInOrder() {
        Due.says("When several errors would do, the one that is named first below is the result.");
        Scene s = withPipe(0).bytes(0, 40, 64, 1, 32, 1).refused(INVAL, 0, READV, 1, 64, 5)
            .refused(INVAL, 0, READV, 9, 40, -1);
        s.refused(BADF, 0, READV, 1, 64, 1).refused(BADF, 0, READV, 4, 40, 1).refused(BADF, 0, READV, 5, 64, 0);
        s.refused(FAULT, 0, READV, 0, 64, 1).refused(FAULT, 0, READV, 0, 40, 1).refused(FAULT, 0, READV, 0, 40, 2);
        s.refused(AGAIN, 0, READV, 0, 42, 1);
    }

    private static void rangesSumIsZero() {
        Due.says("from \"0 when it is 0\" on.");
        Scene s = withPipe(0).bytes(0, 40, 32, 0, 255, 0, 0, 0, 64, 0).due(0, 0, READV, 0, 40, 4)
            .due(0, 0, READV, 0, 40, 1);
        s.due(0, 0, READV, 0, 40, 0).bytes(0, 46, 32, 1).refused(AGAIN, 0, READV, 0, 40, 4);
        withFile().bytes(0, 40, 255, 0).due(0, 0, READV, 0, 40, 1).due(0, 0, READV, 0, 99, 0).due(6, 0, READ, 0, 32, 9);
    }

    private static void rangesOneBehindTheOther() {
        Due.says("with the ranges one behind the other in place of the bytes at A1, the sum of their lengths in place of A2");
        Scene s = withFile().bytes(0, 40, 60, 2, 0, 0, 30, 3, 50, 4).due(6, 0, READV, 0, 40, 4);
        s.dueText(0, 60, "ab\0").dueText(0, 30, "cde\0").dueText(0, 50, "f\0");
        s.due(3, 0, SEEK, 0, 3).due(3, 0, READV, 0, 40, 4).dueText(0, 60, "de\0").dueText(0, 30, "fde")
            .due(0, 0, READV, 0, 40, 4);
        s.due(0, 0, SEEK, 0, 0).due(2, 0, READV, 0, 40, 2).due(4, 0, READ, 0, 32, 9).dueText(0, 32, "cdef");
    }

    private static void rangesOfManyBytes() {
        Due.says("(which may be more than 64 here)");
        Scene s = withFile().due(24, 0, WRITE, 0, 0, 24).due(0, 0, SEEK, 0, 0).bytes(0, 40, 0, 64, 0, 1, 0, 64, 0, 64);
        s.due(24, 0, READV, 0, 40, 4).dueText(0, 16, "abcdef").due(0, 0, READV, 0, 40, 4);
        s = new Scene();
        for (int page = 0; page < 16; page++) {
            s.map(0, page, page, 7);
        }
        s.text(0, 0, "f").text(0, 16, "abcdef").due(0, 0, OPEN, 0, 7).due(6, 0, WRITE, 0, 16, 6).due(0, 0, SEEK, 0, 0);
        s.bytes(0, 40, 0, 255, 1, 255, 0, 255, 1, 255).due(6, 0, READV, 0, 40, 4).dueText(0, 0, "abcdef")
            .due(0, 0, SEEK, 0, 0);
        s.bytes(0, 40, 2, 255).refused(FAULT, 0, READV, 0, 40, 1).bytes(0, 40, 2, 254).due(6, 0, READV, 0, 40, 1);
    }

    private static void rangesFromPipe() {
        Due.says("Then as READ (WRITE)");
        Scene s = withPipe(0).bytes(0, 40, 32, 2, 34, 1).refused(AGAIN, 0, READV, 0, 40, 2).due(5, 0, WRITE, 1, 16, 5);
        s.due(3, 0, READV, 0, 40, 2).dueText(0, 32, "abc").due(2, 0, READV, 0, 40, 2).dueText(0, 32, "dec")
            .refused(AGAIN, 0, READV, 0, 40, 2);
        s.due(0, 0, CLOSE, 1).due(0, 0, READV, 0, 40, 2).dueText(0, 32, "dec");
        withPipe(8).bytes(0, 40, 32, 4, 52, 4).due(8, 0, READV, 0, 40, 2).dueText(0, 32, "abcd").dueText(0, 52, "efgh");
        withPipe(8).bytes(0, 40, 32, 4, 52, 5).due(8, 0, READV, 0, 40, 2).dueText(0, 52, "efgh\0");
    }

    private static void pairsAreReadFirst() {
        Due.says("What is read from memory is all read before anything is put into it");
        Scene s = withFile().bytes(0, 40, 42, 2, 32, 2, 34, 2).due(6, 0, READV, 0, 40, 3);
        s.dueBytes(0, 40, 42, 2, 'a', 'b', 34, 2).dueText(0, 32, "cdef");
        withFile().bytes(0, 40, 40, 4, 32, 2).due(6, 0, READV, 0, 40, 2).dueText(0, 40, "abcd").dueText(0, 32, "ef");
    }

    private static void laterOneStays() {
        Due.says("of two that come to one byte of a frame the later one stays.");
        withFile().bytes(0, 40, 32, 3, 33, 3).due(6, 0, READV, 0, 40, 2).dueText(0, 32, "adef");
        withFile().bytes(0, 40, 33, 3, 32, 3).due(6, 0, READV, 0, 40, 2).dueText(0, 32, "defc");
        withFile().map(0, 4, 2, 6).bytes(0, 20, 32, 2, 64, 2).due(4, 0, READV, 0, 20, 2).dueText(0, 32, "cd\0");
        withFile().bytes(0, 40, 32, 1, 32, 1, 32, 1, 32, 1).due(4, 0, READV, 0, 40, 4).dueText(0, 32, "d\0");
    }
}
