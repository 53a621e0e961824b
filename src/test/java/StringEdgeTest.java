/** Terms, STRING: the longest and the shortest, where they end, and what of them must be readable. */
public final class StringEdgeTest implements Numbers {
    public static void main(String[] args) {
        sevenBytes();
        eightBytes();
        noBytes();
        zeroReadable();
        bytesReadable();
        behindTheZero();
        lastAddress();
        outsideOfMemory();
        allBytesCount();
        Due.end();
    }

    /** A file "f" with its name at 0, "n" at 2. */
    private static Scene scene() {
        return new Scene().room(0).text(0, 0, "f").text(0, 2, "n").due(0, 0, OPEN, 0, 7);
    }

    /** There is no string at the address, whichever call asks for it, and whatever the other one is. */
    private static void dueFault(Scene s, int address) {
        s.refused(FAULT, 0, OPEN, address, 7).refused(FAULT, 0, OPEN, address, 1).refused(FAULT, 0, UNLINK, address);
        s.refused(FAULT, 0, LINK, address, 2).refused(FAULT, 0, LINK, 0, address).refused(FAULT, 0, LINK, 2, address);
        s.refused(FAULT, 0, RENAME, address, 2).refused(FAULT, 0, RENAME, 0, address)
            .refused(FAULT, 0, RENAME, 2, address);
        s.refused(FAULT, 0, STAT, address, 16).refused(FAULT, 0, LINK, address, address);
        s.refused(FAULT, 0, RENAME, address, address);
    }

    /** There is a string at the address that is no name yet: it becomes one, is found, and is gone again. */
    private static void dueNewName(Scene s, int address) {
        s.refused(NOENT, 0, UNLINK, address).refused(NOENT, 0, STAT, address, 16).refused(NOENT, 0, OPEN, address, 1);
        s.refused(NOENT, 0, LINK, address, 2).refused(NOENT, 0, RENAME, address, 2);
        s.due(1, 0, OPEN, address, 7).dueCounts(2, 2, 2, 0).due(0, 0, STAT, address, 16).due(0, 0, UNLINK, address);
        s.due(0, 0, LINK, 0, address).refused(EXIST, 0, LINK, 0, address).due(0, 0, UNLINK, address)
            .due(0, 0, CLOSE, 1);
        s.due(0, 0, RENAME, 0, address).dueCounts(1, 1, 1, 0).due(0, 0, RENAME, address, 0).dueCounts(1, 1, 1, 0);
    }

    private static void sevenBytes() {
        Due.says("the bytes from there on before the first 0, at most 7 of them");
        dueNewName(scene().text(0, 20, "abcdefg"), 20);
        dueNewName(scene().text(0, 20, "a"), 20);
        scene().text(0, 20, "abcdefg").due(1, 0, OPEN, 20, 7).due(7, 0, LIST, 0, 40).dueText(0, 40, "abcdefg\0");
    }

    private static void eightBytes() {
        Due.says("at most 7 of them, all of them and the 0 being readable; if there is none such, it is a FAULT.");
        dueFault(scene().text(0, 20, "abcdefgh"), 20);
        dueFault(scene().text(0, 20, "abcdefghijklmnopqrs"), 20);
        dueNewName(scene().text(0, 20, "abcdefgh"), 21);
    }

    private static void noBytes() {
        Due.says("each a string of 1 .. 7 bytes");
        Scene s = scene().refused(NOENT, 0, OPEN, 1, 7).refused(NOENT, 0, OPEN, 1, 3).refused(NOENT, 0, UNLINK, 1);
        s.refused(NOENT, 0, LINK, 0, 1).refused(NOENT, 0, LINK, 1, 2).refused(NOENT, 0, LINK, 1, 1);
        s.refused(NOENT, 0, RENAME, 0, 1).refused(NOENT, 0, RENAME, 1, 2).refused(NOENT, 0, RENAME, 1, 1);
        s.refused(NOENT, 0, STAT, 1, 16);
    }

    private static void zeroReadable() {
        Due.says("all of them and the 0 being readable");
        for (int flags : new int[] {0, 1, 2, 3, 4, 6}) {
            dueFault(scene().map(0, 4, 15, flags).bytes(0, 57, 'a', 'b', 'c', 'd', 'e', 'f', 'g'), 57);
            dueFault(scene().map(0, 4, 15, flags).bytes(0, 63, 'a'), 63);
        }
        dueFault(scene().bytes(0, 57, 'a', 'b', 'c', 'd', 'e', 'f', 'g'), 57);
        dueNewName(scene().map(0, 4, 15, 5).bytes(0, 57, 'a', 'b', 'c', 'd', 'e', 'f', 'g'), 57);
        dueNewName(scene().map(0, 4, 15, 5).bytes(0, 63, 'a'), 63);
    }

    private static void bytesReadable() {
        Due.says("all of them and the 0 being readable");
        for (int flags : new int[] {0, 1, 2, 3, 4, 6}) {
            dueFault(scene().map(0, 2, 2, flags).text(0, 31, "ab"), 31);
            dueFault(scene().map(0, 2, 2, flags).text(0, 47, "ab"), 47);
            dueFault(scene().map(0, 2, 2, flags).text(0, 40, "ab"), 40);
        }
        dueNewName(scene().map(0, 2, 2, 5).text(0, 31, "ab"), 31);
        dueNewName(scene().map(0, 2, 2, 5).text(0, 47, "ab"), 47);
    }

    private static void behindTheZero() {
        Due.says("the bytes from there on before the first 0");
        dueNewName(scene().text(0, 61, "ab"), 61);
        dueNewName(scene().text(0, 56, "abcdefg"), 56);
        dueNewName(scene().map(0, 2, 2, 0).text(0, 30, "a"), 30);
        dueNewName(scene().text(0, 20, "ab\0cdefghijk"), 20);
        scene().refused(NOENT, 0, OPEN, 63, 7);
    }

    private static void lastAddress() {
        Due.says("ADDRESS a of a process, 0 .. 255");
        dueNewName(scene().map(0, 15, 15, 5).text(0, 248, "abcdefg"), 248);
        dueNewName(scene().map(0, 15, 15, 5).text(0, 254, "a"), 254);
        scene().map(0, 15, 15, 5).refused(NOENT, 0, OPEN, 255, 7);
        dueFault(scene().map(0, 15, 15, 5).bytes(0, 255, 'a'), 255);
        dueFault(scene().map(0, 15, 15, 5).bytes(0, 249, 'a', 'b', 'c', 'd', 'e', 'f', 'g'), 249);
        dueFault(scene().map(0, 15, 15, 5).bytes(0, 248, 'a', 'b', 'c', 'd', 'e', 'f', 'g', 'h'), 248);
    }

    private static void outsideOfMemory() {
        Due.says("if there is none such, it is a FAULT.");
        Scene s = scene().map(0, 15, 15, 5);
        for (int address : Numbers.outside(255)) {
            dueFault(s, address);
        }
        dueFault(s, 64);
        dueFault(s, -7);
        dueFault(s, MOST - 7);
    }

    private static void allBytesCount() {
        Due.says("no two alike");
        Scene s = scene().text(0, 20, "abcdefg").text(0, 30, "abcdefh").text(0, 40, "abcdef").text(0, 50, "bbcdefg");
        s.due(1, 0, OPEN, 20, 7).refused(NOENT, 0, UNLINK, 30).refused(NOENT, 0, UNLINK, 40)
            .refused(NOENT, 0, UNLINK, 50);
        s.due(0, 0, LINK, 20, 30).due(0, 0, LINK, 20, 40).due(0, 0, LINK, 20, 50).dueCounts(2, 5, 2, 0);
        s.bytes(0, 20, 255).bytes(0, 21, 0).due(0, 0, LINK, 0, 20).due(1, 0, LIST, 5, 8).dueBytes(0, 8, 255, 0);
    }
}
