/** The boundary cases of UNLINK (8), LINK (9), STAT (10), LIST (12) and RENAME (17). */
public final class NameEdgeTest implements Numbers {
    public static void main(String[] args) {
        unlinkFaults();
        unlinkNoSuchName();
        unlinkOneOfSeveral();
        linkFaultsOfEither();
        linkNoSuchName();
        linkNameIsThere();
        linkEightNames();
        linkErrorsInOrder();
        linkGetsTheOther();
        statFaults();
        statNoSuchName();
        statErrorsInOrder();
        statLengths();
        statNames();
        statOpens();
        statOntoItsString();
        listNumbers();
        listFaults();
        listErrorsInOrder();
        listOrder();
        listPutsNameAndZero();
        renameFaultsOfEither();
        renameNoSuchName();
        renameErrorsInOrder();
        renameAlike();
        renameToNewName();
        renameToOldName();
        renameToOwnName();
        renameWhenFull();
        Due.end();
    }

    /** Files "f" (0 bytes) and "g" (2 bytes), their names at 0 and 2; "n" is at 4, an empty string at 6. */
    private static Scene scene() {
        Scene s = new Scene().room(0).text(0, 0, "f").text(0, 2, "g").text(0, 4, "n").text(0, 6, "")
            .text(0, 8, "abcdefgh");
        s.due(0, 0, OPEN, 0, 7).due(0, 0, CLOSE, 0).due(0, 0, OPEN, 2, 7);
        return s.due(2, 0, WRITE, 0, 2, 2).due(0, 0, CLOSE, 0);
    }

    /** The two files with n names in all: those of "f" are "f" and "0", "1" ...; the last of them is at 20. */
    private static Scene withNames(int n) {
        Scene s = scene();
        for (int i = 0; i < n - 2; i++) {
            s.bytes(0, 20, '0' + i, 0).due(0, 0, LINK, 0, 20);
        }
        return s.dueCounts(2, n, 0, 0);
    }

    private static void unlinkFaults() {
        Due.says("FAULT; NOENT when there is no such name; the name is gone, 0.");
        Scene s = scene().refused(FAULT, 0, UNLINK, 8).refused(FAULT, 0, UNLINK, 64).refused(FAULT, 0, UNLINK, -1)
            .refused(FAULT, 0, UNLINK, 256);
        s.map(0, 1, 1, 6).refused(FAULT, 0, UNLINK, 15).refused(FAULT, 0, UNLINK, 16);
    }

    private static void unlinkNoSuchName() {
        Due.says("NOENT when there is no such name; the name is gone, 0.");
        new Scene().room(0).text(0, 0, "f").refused(NOENT, 0, UNLINK, 0);
        Scene s = scene().refused(NOENT, 0, UNLINK, 4).refused(NOENT, 0, UNLINK, 6).due(0, 0, UNLINK, 0)
            .refused(NOENT, 0, UNLINK, 0);
        s.dueCounts(1, 1, 0, 0).due(0, 0, UNLINK, 2).dueCounts(0, 0, 0, 0).refused(NOENT, 0, UNLINK, 2);
    }

    private static void unlinkOneOfSeveral() {
        Due.says("the name is gone, 0.");
        Scene s = withNames(8).due(0, 0, UNLINK, 0).dueCounts(2, 7, 0, 0).dueStat(0, 20, 0, 6, 0)
            .dueStat(0, 2, 2, 1, 0);
        s.due(1, 0, LIST, 0, 40).dueText(0, 40, "0").due(1, 0, LIST, 6, 40).dueText(0, 40, "g")
            .refused(NOENT, 0, LIST, 7, 40);
        scene().due(0, 0, OPEN, 2, 1).due(0, 0, UNLINK, 2).dueCounts(2, 1, 1, 0).due(2, 0, READ, 0, 40, 9)
            .dueText(0, 40, "g\0");
    }

    private static void linkFaultsOfEither() {
        Due.says("FAULT of either");
        for (int address : new int[] {LEAST, -1, 8, 64, 255, 256, MOST}) {
            scene().refused(FAULT, 0, LINK, address, 4).refused(FAULT, 0, LINK, 0, address)
                .refused(FAULT, 0, LINK, address, address);
        }
        scene().map(0, 1, 1, 6).refused(FAULT, 0, LINK, 0, 16).refused(FAULT, 0, LINK, 16, 4);
    }

    private static void linkNoSuchName() {
        Due.says("NOENT when there is no name A0 or the string at A1 is empty");
        Scene s = scene().refused(NOENT, 0, LINK, 4, 5).refused(NOENT, 0, LINK, 4, 4).refused(NOENT, 0, LINK, 6, 4)
            .refused(NOENT, 0, LINK, 0, 6);
        s.refused(NOENT, 0, LINK, 6, 6).refused(NOENT, 0, LINK, 4, 0).due(0, 0, LINK, 0, 4).dueCounts(2, 3, 0, 0);
        new Scene().room(0).text(0, 0, "f").text(0, 2, "g").refused(NOENT, 0, LINK, 0, 2);
    }

    private static void linkNameIsThere() {
        Due.says("EXIST when there is a name A1");
        Scene s = scene().refused(EXIST, 0, LINK, 0, 2).refused(EXIST, 0, LINK, 2, 0).refused(EXIST, 0, LINK, 0, 0);
        s.due(0, 0, LINK, 0, 4).refused(EXIST, 0, LINK, 0, 4).refused(EXIST, 0, LINK, 4, 0).due(0, 0, UNLINK, 2)
            .due(0, 0, LINK, 0, 2);
    }

    private static void linkEightNames() {
        Due.says("NOSPC when there are 8 names");
        withNames(7).due(0, 0, LINK, 0, 4).dueCounts(2, 8, 0, 0).refused(NOSPC, 0, LINK, 0, 9);
        withNames(8).refused(NOSPC, 0, LINK, 0, 4).refused(NOSPC, 0, LINK, 2, 4).due(0, 0, UNLINK, 2)
            .due(0, 0, LINK, 0, 4).dueCounts(1, 8, 0, 0);
    }

    private static void linkErrorsInOrder() {
        Due.says("When several errors would do, the one that is named first below is the result.");
        Scene s = withNames(8).refused(FAULT, 0, LINK, 4, 8).refused(FAULT, 0, LINK, 8, 6).refused(FAULT, 0, LINK, 8, 0)
            .refused(FAULT, 0, LINK, 0, 8);
        s.refused(NOENT, 0, LINK, 4, 0).refused(NOENT, 0, LINK, 4, 5).refused(NOENT, 0, LINK, 0, 6)
            .refused(NOENT, 0, LINK, 4, 4);
        s.refused(EXIST, 0, LINK, 0, 2).refused(EXIST, 0, LINK, 0, 0).refused(NOSPC, 0, LINK, 0, 4);
    }

    private static void linkGetsTheOther() {
        Due.says("the file gets the other name too, 0.");
        Scene s = scene().due(0, 0, LINK, 2, 4).dueStat(0, 4, 2, 2, 0).dueStat(0, 2, 2, 2, 0).dueStat(0, 0, 0, 1, 0)
            .dueCounts(2, 3, 0, 0);
        s.due(0, 0, OPEN, 4, 11).dueStat(0, 2, 0, 2, 1).due(0, 0, UNLINK, 2).dueStat(0, 4, 0, 1, 1);
        Scene full = new Scene().room(0);
        for (int i = 0; i < 6; i++) {
            full.bytes(0, 0, 'a' + i, 0).due(0, 0, OPEN, 0, 7).due(0, 0, CLOSE, 0);
        }
        full.text(0, 4, "n").due(0, 0, LINK, 0, 4).dueCounts(6, 7, 0, 0);
    }

    private static void statFaults() {
        Due.says("FAULT of the string, or when 3 bytes at A1 are not writable");
        Scene s = scene().map(0, 15, 15, 6);
        for (int address : new int[] {LEAST, -1, 8, 64, 256, MOST}) {
            s.refused(FAULT, 0, STAT, address, 32);
        }
        for (int address : new int[] {LEAST, -3, -1, 62, 63, 64, 239, 254, 255, 256, MOST - 2, MOST - 1, MOST}) {
            s.refused(FAULT, 0, STAT, 0, address);
        }
        s.due(0, 0, STAT, 0, 61).dueBytes(0, 61, 0, 1, 0).due(0, 0, STAT, 2, 253).dueBytes(0, 253, 2, 1, 0)
            .due(0, 0, STAT, 2, 240);
        s.map(0, 3, 3, 5).refused(FAULT, 0, STAT, 0, 46).refused(FAULT, 0, STAT, 0, 47).due(0, 0, STAT, 0, 45)
            .map(0, 3, 3, 6).due(0, 0, STAT, 0, 47);
    }

    private static void statNoSuchName() {
        Due.says("NOENT when there is no such name");
        scene().refused(NOENT, 0, STAT, 4, 32).refused(NOENT, 0, STAT, 6, 32).due(0, 0, UNLINK, 0)
            .refused(NOENT, 0, STAT, 0, 32);
        new Scene().room(0).refused(NOENT, 0, STAT, 0, 32);
    }

    private static void statErrorsInOrder() {
        Due.says("When several errors would do, the one that is named first below is the result.");
        scene().refused(FAULT, 0, STAT, 4, 62).refused(FAULT, 0, STAT, 6, 64).refused(FAULT, 0, STAT, 8, 62)
            .refused(FAULT, 0, STAT, 4, -1).refused(NOENT, 0, STAT, 4, 61);
    }

    private static void statLengths() {
        Due.says("its file's length, the number of its names and of its opens (DUP makes none) are put there, 0.");
        Scene s = scene().dueStat(0, 0, 0, 1, 0).dueStat(0, 2, 2, 1, 0).due(0, 0, OPEN, 0, 2).due(1, 0, WRITE, 0, 0, 1)
            .dueStat(0, 0, 1, 1, 1);
        s.due(22, 0, WRITE, 0, 0, 22).dueStat(0, 0, 23, 1, 1).due(1, 0, WRITE, 0, 0, 22).dueStat(0, 0, 24, 1, 1);
        s.due(1, 0, OPEN, 0, 10).dueStat(0, 0, 0, 1, 2).dueBytes(0, 63, 0);
    }

    private static void statNames() {
        Due.says("the number of its names");
        Scene s = withNames(8).dueStat(0, 0, 0, 7, 0).dueStat(0, 20, 0, 7, 0).dueStat(0, 2, 2, 1, 0)
            .due(0, 0, UNLINK, 0).dueStat(0, 20, 0, 6, 0);
        s.due(0, 0, RENAME, 2, 20).dueStat(0, 20, 2, 1, 0).text(0, 20, "0").dueStat(0, 20, 0, 5, 0);
    }

    private static void statOpens() {
        Due.says("and of its opens (DUP makes none)");
        Scene s = scene().room(1).text(1, 0, "f").due(0, 0, OPEN, 0, 1).dueStat(0, 0, 0, 1, 1).due(1, 0, DUP, 0)
            .dueStat(0, 0, 0, 1, 1);
        s.due(2, 0, OPEN, 0, 2).due(3, 0, OPEN, 2, 1).dueStat(0, 0, 0, 1, 2).dueStat(0, 2, 2, 1, 1).due(0, 0, CLOSE, 0)
            .dueStat(0, 0, 0, 1, 2);
        s.due(0, 0, CLOSE, 1).dueStat(0, 0, 0, 1, 1).due(0, 0, PIPE, 32).dueStat(0, 0, 0, 1, 1);
        s.dueZero(CLOSE, 0, 1, 3);
        for (int i = 1; i < 8; i++) {
            int p = i < 5 ? 1 : 0;
            s.due(new int[] {0, 0, 1, 2, 3, 0, 1, 3}[i], p, OPEN, 0, 3).dueStat(0, 0, 0, 1, i + 1);
        }
    }

    private static void statOntoItsString() {
        Due.says("What is read from memory is all read before anything is put into it");
        scene().due(0, 0, STAT, 2, 2).dueBytes(0, 2, 2, 1, 0);
        scene().due(0, 0, STAT, 2, 1).dueBytes(0, 1, 2, 1, 0);
    }

    private static void listNumbers() {
        Due.says("NOENT when A0 is not 0 .. (number of names) - 1");
        new Scene().room(0).refused(NOENT, 0, LIST, 0, 32).refused(NOENT, 0, LIST, -1, 32)
            .refused(NOENT, 0, LIST, 1, 32);
        for (int n = 2; n <= 8; n++) {
            Scene s = withNames(n).due(1, 0, LIST, 0, 32).due(1, 0, LIST, n - 1, 32).dueText(0, 32, "g\0");
            for (int name : Numbers.outside(n - 1)) {
                s.refused(NOENT, 0, LIST, name, 32);
            }
        }
        scene().due(0, 0, UNLINK, 2).due(1, 0, LIST, 0, 32).refused(NOENT, 0, LIST, 1, 32).due(0, 0, UNLINK, 0)
            .refused(NOENT, 0, LIST, 0, 32);
    }

    private static void listFaults() {
        Due.says("FAULT when the name's bytes and one more are not writable at A1");
        Scene s = scene().map(0, 15, 15, 6).text(0, 24, "abcdefg").due(0, 0, LINK, 0, 24).bytes(0, 255, 9)
            .bytes(0, 63, 9);
        for (int address : new int[] {LEAST, -8, -1, 57, 63, 64, 239, 249, 255, 256, MOST - 6, MOST}) {
            s.refused(FAULT, 0, LIST, 0, address);
        }
        s.due(7, 0, LIST, 0, 248).dueText(0, 248, "abcdefg\0").due(7, 0, LIST, 0, 56).dueText(0, 56, "abcdefg\0")
            .due(7, 0, LIST, 0, 240);
        s.refused(FAULT, 0, LIST, 1, 255).refused(FAULT, 0, LIST, 1, 63).due(1, 0, LIST, 1, 254).dueText(0, 254, "f\0")
            .due(1, 0, LIST, 1, 62);
        s.map(0, 3, 3, 5).refused(FAULT, 0, LIST, 0, 41).refused(FAULT, 0, LIST, 1, 47).due(7, 0, LIST, 0, 40)
            .due(1, 0, LIST, 1, 46);
    }

    private static void listErrorsInOrder() {
        Due.says("When several errors would do, the one that is named first below is the result.");
        scene().refused(NOENT, 0, LIST, 2, 64).refused(NOENT, 0, LIST, -1, -1).refused(FAULT, 0, LIST, 1, 63);
    }

    private static void listOrder() {
        Due.says("names are numbered from 0 in the order of the dictionary (bytes by their numbers; a beginning before what goes on)");
        String[] sorted = {"\1", "A", "a", "a\1", "aa", "aaaaaaa", "a\u0080", "\u00ff"};
        for (int turn = 0; turn < 8; turn++) {
            Scene s = new Scene().room(0).text(0, 0, sorted[turn]).due(0, 0, OPEN, 0, 7);
            for (int i = 1; i < 8; i++) {
                s.text(0, 8, sorted[(turn + 3 * i) % 8]).due(0, 0, LINK, 0, 8);
            }
            for (int i = 0; i < 8; i++) {
                s.due(sorted[i].length(), 0, LIST, i, 32).dueText(0, 32, sorted[i] + "\0");
            }
        }
    }

    private static void listPutsNameAndZero() {
        Due.says("its bytes and a 0 are put there; the result is how many bytes it has.");
        for (int length = 1; length <= 7; length++) {
            Scene s = new Scene().room(0).text(0, 0, "abcdefg".substring(0, length)).due(0, 0, OPEN, 0, 7);
            s.bytes(0, 31, 9, 9, 9, 9, 9, 9, 9, 9, 9, 9).due(length, 0, LIST, 0, 32).dueBytes(0, 31, 9);
            s.dueText(0, 32, "abcdefg".substring(0, length) + "\0").dueBytes(0, 33 + length, 9);
        }
    }

    private static void renameFaultsOfEither() {
        Due.says("FAULT of either");
        for (int address : new int[] {LEAST, -1, 8, 64, 255, 256, MOST}) {
            scene().refused(FAULT, 0, RENAME, address, 4).refused(FAULT, 0, RENAME, 0, address)
                .refused(FAULT, 0, RENAME, address, address);
        }
        scene().map(0, 1, 1, 6).refused(FAULT, 0, RENAME, 0, 16).refused(FAULT, 0, RENAME, 16, 4);
    }

    private static void renameNoSuchName() {
        Due.says("NOENT when there is no name A0 or the string at A1 is empty");
        Scene s = scene().refused(NOENT, 0, RENAME, 4, 5).refused(NOENT, 0, RENAME, 4, 0)
            .refused(NOENT, 0, RENAME, 6, 4);
        s.refused(NOENT, 0, RENAME, 0, 6).refused(NOENT, 0, RENAME, 6, 6).refused(NOENT, 0, RENAME, 6, 0);
        new Scene().room(0).text(0, 0, "f").text(0, 2, "g").refused(NOENT, 0, RENAME, 0, 2);
    }

    private static void renameErrorsInOrder() {
        Due.says("When several errors would do, the one that is named first below is the result.");
        scene().refused(FAULT, 0, RENAME, 4, 8).refused(FAULT, 0, RENAME, 8, 6).refused(FAULT, 0, RENAME, 6, 64)
            .refused(NOENT, 0, RENAME, 4, 6);
    }

    private static void renameAlike() {
        Due.says("when the two are alike (and there is that name) nothing is done, 0");
        Scene s = withNames(8).text(0, 24, "f").due(0, 0, RENAME, 0, 0).due(0, 0, RENAME, 0, 24).dueCounts(2, 8, 0, 0)
            .dueStat(0, 24, 0, 7, 0);
        s.refused(NOENT, 0, RENAME, 4, 4).text(0, 26, "n").refused(NOENT, 0, RENAME, 4, 26);
        scene().due(0, 0, RENAME, 0, 0).dueStat(0, 0, 0, 1, 0).due(1, 0, LIST, 0, 32).dueText(0, 32, "f\0");
    }

    private static void renameToNewName() {
        Due.says("and the name A0 becomes A1, 0.");
        Scene s = scene().due(0, 0, RENAME, 2, 4).dueCounts(2, 2, 0, 0).refused(NOENT, 0, STAT, 2, 32)
            .dueStat(0, 4, 2, 1, 0).dueStat(0, 0, 0, 1, 0);
        s.text(0, 24, "A").due(0, 0, RENAME, 4, 24).due(1, 0, LIST, 0, 32).dueText(0, 32, "A\0").due(1, 0, LIST, 1, 32)
            .dueText(0, 32, "f\0");
        s = scene().due(0, 0, OPEN, 2, 3).due(0, 0, LINK, 2, 4).text(0, 24, "abcdefg").due(0, 0, RENAME, 2, 24);
        s.dueStat(0, 24, 2, 2, 1).due(2, 0, READ, 0, 32, 9).dueCounts(2, 3, 1, 0);
    }

    private static void renameToOldName() {
        Due.says("otherwise a name A1, if there is one, is gone");
        scene().due(0, 0, RENAME, 2, 0).dueCounts(1, 1, 0, 0).dueStat(0, 0, 2, 1, 0).refused(NOENT, 0, STAT, 2, 32);
        scene().due(0, 0, RENAME, 0, 2).dueCounts(1, 1, 0, 0).dueStat(0, 2, 0, 1, 0).refused(NOENT, 0, STAT, 0, 32);
        Scene s = scene().due(0, 0, OPEN, 2, 3).due(0, 0, RENAME, 0, 2).dueCounts(2, 1, 1, 0).dueStat(0, 2, 0, 1, 0);
        s.due(2, 0, READ, 0, 32, 9).due(0, 0, CLOSE, 0).dueCounts(1, 1, 0, 0);
        scene().due(0, 0, LINK, 2, 4).due(0, 0, RENAME, 0, 2).dueCounts(2, 2, 0, 0).dueStat(0, 4, 2, 1, 0)
            .dueStat(0, 2, 0, 1, 0);
    }

    private static void renameToOwnName() {
        Due.says("otherwise a name A1, if there is one, is gone, and the name A0 becomes A1, 0.");
        scene().due(0, 0, LINK, 2, 4).due(0, 0, RENAME, 2, 4).dueCounts(2, 2, 0, 0).dueStat(0, 4, 2, 1, 0)
            .refused(NOENT, 0, STAT, 2, 32);
        scene().due(0, 0, LINK, 2, 4).due(0, 0, RENAME, 4, 2).dueCounts(2, 2, 0, 0).dueStat(0, 2, 2, 1, 0)
            .refused(NOENT, 0, STAT, 4, 32);
    }

    private static void renameWhenFull() {
        Due.says("and the name A0 becomes A1, 0.");
        withNames(8).due(0, 0, RENAME, 2, 4).dueCounts(2, 8, 0, 0).dueStat(0, 4, 2, 1, 0).due(0, 0, RENAME, 4, 20)
            .dueCounts(2, 7, 0, 0).dueStat(0, 20, 2, 1, 0);
        withNames(8).due(0, 0, RENAME, 0, 4).dueCounts(2, 8, 0, 0).dueStat(0, 4, 0, 7, 0).due(0, 0, RENAME, 4, 2)
            .dueCounts(1, 7, 0, 0).dueStat(0, 2, 0, 7, 0);
    }
}
