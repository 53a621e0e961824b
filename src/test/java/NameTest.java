/** Promise 10, the calls about names: UNLINK, LINK, STAT, LIST, RENAME. */
public final class NameTest {
    private static final int[] NO_ADDRESSES = {Integer.MIN_VALUE, -1, 64, 255, 256, Integer.MAX_VALUE};

    public static void main(String[] args) {
        unlink();
        link();
        linkErrorsInOrder();
        stat();
        statErrorsInOrder();
        listOrder();
        listErrorsInOrder();
        rename();
        renameToOwnOtherName();
        renameErrorsInOrder();
        renameWhenFull();
        Due.end();
    }

    /** Files "a" with 1 byte and "b" with 2, both closed; strings "a" at 0, "b" at 2, "c" at 4, "" at 6. */
    private static Machine withFiles() {
        Machine m = new Machine().roomFor(0).text(0, 0, "a").text(0, 2, "b").text(0, 4, "c").text(0, 6, "");
        m.due(0, 0, Machine.OPEN, 0, 7, 0).due(1, 0, Machine.WRITE, 0, 0, 1).due(0, 0, Machine.CLOSE, 0, 0, 0);
        m.due(0, 0, Machine.OPEN, 2, 7, 0).due(2, 0, Machine.WRITE, 0, 2, 2).due(0, 0, Machine.CLOSE, 0, 0, 0);
        return m;
    }

    private static Machine dueStat(Machine m, int address, int length, int names, int opens) {
        return m.due(0, 0, Machine.STAT, address, 60, 0).dueBytes(0, 60, length, names, opens);
    }

    private static Machine dueName(Machine m, int name, String want) {
        return m.due(want.length(), 0, Machine.LIST, name, 40, 0).dueText(0, 40, want + "\0");
    }

    private static void unlink() {
        Machine m = withFiles();
        for (int address : NO_ADDRESSES) {
            m.due(Machine.FAULT, 0, Machine.UNLINK, address, 0, 0);
        }
        m.due(Machine.NOENT, 0, Machine.UNLINK, 4, 0, 0).due(Machine.NOENT, 0, Machine.UNLINK, 6, 0, 0);
        m.dueCounts(2, 2, 0, 0).due(0, 0, Machine.UNLINK, 0, 0, 0).dueCounts(1, 1, 0, 0);
        m.due(Machine.NOENT, 0, Machine.UNLINK, 0, 0, 0);
        dueStat(m, 2, 2, 1, 0);
        m.due(0, 0, Machine.UNLINK, 2, 0, 0).dueCounts(0, 0, 0, 0);
    }

    private static void link() {
        Machine m = withFiles();
        m.due(0, 0, Machine.LINK, 2, 4, 0).dueCounts(2, 3, 0, 0);
        dueStat(m, 2, 2, 2, 0);
        dueStat(m, 4, 2, 2, 0);
        dueStat(m, 0, 1, 1, 0);
        m.due(0, 0, Machine.UNLINK, 2, 0, 0).dueCounts(2, 2, 0, 0);
        dueStat(m, 4, 2, 1, 0);
        m.due(0, 0, Machine.OPEN, 4, 3, 0).due(2, 0, Machine.READ, 0, 32, 9).dueText(0, 32, "b\0");
    }

    private static void linkErrorsInOrder() {
        Machine m = withFiles();
        for (int address : NO_ADDRESSES) {
            m.due(Machine.FAULT, 0, Machine.LINK, address, 6, 0).due(Machine.FAULT, 0, Machine.LINK, 4, address, 0);
        }
        m.due(Machine.NOENT, 0, Machine.LINK, 4, 0, 0).due(Machine.NOENT, 0, Machine.LINK, 0, 6, 0);
        m.due(Machine.NOENT, 0, Machine.LINK, 6, 4, 0).due(Machine.NOENT, 0, Machine.LINK, 4, 4, 0);
        m.due(Machine.EXIST, 0, Machine.LINK, 0, 2, 0).due(Machine.EXIST, 0, Machine.LINK, 0, 0, 0);
        for (int i = 0; i < 6; i++) {
            m.text(0, 16, "n" + i).due(0, 0, Machine.LINK, 0, 16, 0);
        }
        m.dueCounts(2, 8, 0, 0).due(Machine.NOSPC, 0, Machine.LINK, 0, 4, 0).due(Machine.EXIST, 0, Machine.LINK, 2, 0, 0);
        m.due(Machine.NOENT, 0, Machine.LINK, 4, 4, 0).due(Machine.NOENT, 0, Machine.LINK, 0, 6, 0);
        m.dueCounts(2, 8, 0, 0);
        dueStat(m, 0, 1, 7, 0);
    }

    private static void stat() {
        Machine m = withFiles();
        dueStat(m, 0, 1, 1, 0);
        m.due(0, 0, Machine.OPEN, 0, 1, 0).due(1, 0, Machine.OPEN, 0, 2, 0).due(2, 0, Machine.DUP, 0, 0, 0);
        dueStat(m, 0, 1, 1, 2);
        dueStat(m, 2, 2, 1, 0);
        m.due(0, 0, Machine.PIPE, 32, 0, 0);
        dueStat(m, 0, 1, 1, 2);
        m.due(0, 0, Machine.CLOSE, 0, 0, 0);
        dueStat(m, 0, 1, 1, 2);
        m.due(0, 0, Machine.CLOSE, 2, 0, 0);
        dueStat(m, 0, 1, 1, 1);
        m.due(0, 0, Machine.STAT, 0, 0, 0).dueBytes(0, 0, 1, 1, 1);
        m.gate.map(0, 15, 18, 6);
        m.gate.poke(18, 15, 9);
        m.text(0, 0, "b").due(Machine.FAULT, 0, Machine.STAT, 0, 254, 0).due(0, 0, Machine.STAT, 0, 253, 0);
        Due.is("peek(18, 13)", m.gate.peek(18, 13), 2);
        Due.is("peek(18, 14)", m.gate.peek(18, 14), 1);
        Due.is("peek(18, 15)", m.gate.peek(18, 15), 0);
    }

    private static void statErrorsInOrder() {
        Machine m = withFiles();
        for (int address : NO_ADDRESSES) {
            m.due(Machine.FAULT, 0, Machine.STAT, address, 60, 0).due(Machine.FAULT, 0, Machine.STAT, 4, address, 0);
        }
        m.due(Machine.FAULT, 0, Machine.STAT, 0, 62, 0).due(Machine.FAULT, 0, Machine.STAT, 6, 62, 0);
        m.due(Machine.NOENT, 0, Machine.STAT, 4, 61, 0).due(Machine.NOENT, 0, Machine.STAT, 6, 61, 0);
        m.dueBytes(0, 60, 0, 0, 0, 0).due(0, 0, Machine.STAT, 0, 61, 0).dueBytes(0, 60, 0, 1, 1, 0);
        m.gate.map(0, 3, 3, 5);
        m.due(Machine.FAULT, 0, Machine.STAT, 0, 61, 0).due(Machine.FAULT, 0, Machine.STAT, 0, 46, 0);
        m.due(0, 0, Machine.STAT, 0, 45, 0);
    }

    private static void listOrder() {
        Machine m = new Machine().roomFor(0);
        String[] made = {"b", "a\u00ff", "\u00ff\u00ff\u00ff\u00ff\u00ff\u00ff\u00ff", "aa", "a", "\u0001", "abcdefg", "abcdef"};
        String[] sorted = {"\u0001", "a", "aa", "abcdef", "abcdefg", "a\u00ff", "b", "\u00ff\u00ff\u00ff\u00ff\u00ff\u00ff\u00ff"};
        m.text(0, 0, made[0]).due(0, 0, Machine.OPEN, 0, 7, 0);
        for (int i = 1; i < 8; i++) {
            m.text(0, 16, made[i]).due(0, 0, Machine.LINK, 0, 16, 0);
        }
        for (int i = 0; i < 8; i++) {
            dueName(m, i, sorted[i]);
        }
        m.text(0, 0, "abcdef").due(0, 0, Machine.UNLINK, 0, 0, 0);
        dueName(m, 3, "abcdefg");
        dueName(m, 2, "aa");
        m.text(0, 0, "b").text(0, 16, "A").due(0, 0, Machine.RENAME, 0, 16, 0);
        dueName(m, 1, "A");
        dueName(m, 5, "a\u00ff");
    }

    private static void listErrorsInOrder() {
        Machine m = new Machine().roomFor(0).due(Machine.NOENT, 0, Machine.LIST, 0, 32, 0);
        m.text(0, 0, "abcdefg").due(0, 0, Machine.OPEN, 0, 7, 0);
        for (int name : new int[] {Integer.MIN_VALUE, -1, 1, Integer.MAX_VALUE}) {
            m.due(Machine.NOENT, 0, Machine.LIST, name, 999, 0);
        }
        for (int address : NO_ADDRESSES) {
            m.due(Machine.FAULT, 0, Machine.LIST, 0, address, 0);
        }
        m.due(Machine.FAULT, 0, Machine.LIST, 0, 57, 0).dueBytes(0, 57, 0, 0);
        m.bytes(0, 63, 9).due(7, 0, Machine.LIST, 0, 56, 0).dueText(0, 56, "abcdefg\0");
        m.gate.map(0, 2, 2, 5);
        m.due(Machine.FAULT, 0, Machine.LIST, 0, 25, 0).due(7, 0, Machine.LIST, 0, 24, 0);
        m.gate.map(0, 2, 2, 6);
        m.due(7, 0, Machine.LIST, 0, 32, 0);
    }

    private static void rename() {
        Machine m = withFiles();
        m.due(0, 0, Machine.RENAME, 0, 4, 0).dueCounts(2, 2, 0, 0);
        m.due(Machine.NOENT, 0, Machine.STAT, 0, 60, 0);
        dueStat(m, 4, 1, 1, 0);
        m.due(0, 0, Machine.RENAME, 4, 2, 0).dueCounts(1, 1, 0, 0);
        dueStat(m, 2, 1, 1, 0);
        m.due(0, 0, Machine.RENAME, 2, 2, 0).dueCounts(1, 1, 0, 0);
        dueStat(m, 2, 1, 1, 0);
        m.due(0, 0, Machine.OPEN, 0, 7, 0).due(0, 0, Machine.RENAME, 2, 0, 0).dueCounts(2, 1, 1, 0);
        dueStat(m, 0, 1, 1, 0);
        m.due(0, 0, Machine.CLOSE, 0, 0, 0).dueCounts(1, 1, 0, 0);
    }

    private static void renameToOwnOtherName() {
        Machine m = withFiles().due(0, 0, Machine.LINK, 0, 4, 0).dueCounts(2, 3, 0, 0);
        m.due(0, 0, Machine.RENAME, 0, 4, 0).dueCounts(2, 2, 0, 0);
        m.due(Machine.NOENT, 0, Machine.STAT, 0, 60, 0);
        dueStat(m, 4, 1, 1, 0);
    }

    private static void renameErrorsInOrder() {
        Machine m = withFiles();
        for (int address : NO_ADDRESSES) {
            m.due(Machine.FAULT, 0, Machine.RENAME, address, 6, 0).due(Machine.FAULT, 0, Machine.RENAME, 4, address, 0);
        }
        m.due(Machine.NOENT, 0, Machine.RENAME, 4, 0, 0).due(Machine.NOENT, 0, Machine.RENAME, 0, 6, 0);
        m.due(Machine.NOENT, 0, Machine.RENAME, 4, 4, 0).due(Machine.NOENT, 0, Machine.RENAME, 6, 6, 0);
        m.due(Machine.NOENT, 0, Machine.RENAME, 6, 4, 0).dueCounts(2, 2, 0, 0);
        dueStat(m, 0, 1, 1, 0);
        dueStat(m, 2, 2, 1, 0);
    }

    private static void renameWhenFull() {
        Machine m = withFiles();
        for (int i = 0; i < 6; i++) {
            m.text(0, 16, "n" + i).due(0, 0, Machine.LINK, 0, 16, 0);
        }
        m.due(0, 0, Machine.RENAME, 2, 4, 0).dueCounts(2, 8, 0, 0);
        dueStat(m, 4, 2, 1, 0);
        m.due(0, 0, Machine.RENAME, 0, 16, 0).dueCounts(2, 7, 0, 0);
        dueStat(m, 16, 1, 6, 0);
    }
}
