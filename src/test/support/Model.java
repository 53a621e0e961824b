import java.util.ArrayDeque;
import java.util.ArrayList;
import java.util.Deque;
import java.util.List;
import java.util.TreeMap;
import java.util.function.IntPredicate;

/** The document once more, with Java's collections and objects of its own, to be held against TrapGate. */
final class Model {
    static final int NONE = -1;

    private static final class Thrown extends RuntimeException {
        private static final long serialVersionUID = 1;
        final int error;

        Thrown(int error) {
            super(null, null, false, false);
            this.error = error;
        }
    }

    private static final class Page {
        int frame;
        boolean isRead;
        boolean isWrite;
        boolean isUser;
    }

    private static final class Inode {
        List<Integer> bytes = new ArrayList<>();
    }

    private static final class Fifo {
        Deque<Integer> bytes = new ArrayDeque<>();
    }

    private static final class Handle {
        Inode file;
        Fifo pipe;
        boolean isReading;
        boolean isWriting;
        int position;
    }

    private final int[][] frames = new int[20][16];
    private final Page[][] pages = new Page[3][16];
    private final int[][] registers = new int[3][3];
    private final Handle[][] descriptors = new Handle[3][5];
    private final TreeMap<String, Inode> names = new TreeMap<>();
    private int traps;

    private static void require(boolean isFine, int error) {
        if (!isFine) {
            throw new Thrown(error);
        }
    }

    private static boolean isIn(int x, int least, int most) {
        return least <= x && x <= most;
    }

    boolean map(int p, int page, int frame, int flags) {
        if (!(isIn(p, 0, 2) && isIn(page, 0, 15) && isIn(frame, 0, 19) && isIn(flags, 0, 7))) {
            return false;
        }
        Page made = new Page();
        made.frame = frame;
        made.isRead = flags % 2 == 1;
        made.isWrite = flags / 2 % 2 == 1;
        made.isUser = flags / 4 == 1;
        pages[p][page] = made;
        return true;
    }

    boolean unmap(int p, int page) {
        boolean isThere = page(p, page) != NONE;
        if (isThere) {
            pages[p][page] = null;
        }
        return isThere;
    }

    int page(int p, int page) {
        if (!isIn(p, 0, 2) || !isIn(page, 0, 15) || pages[p][page] == null) {
            return NONE;
        }
        Page seen = pages[p][page];
        return 8 * seen.frame + (seen.isRead ? 1 : 0) + (seen.isWrite ? 2 : 0) + (seen.isUser ? 4 : 0);
    }

    boolean poke(int frame, int i, int b) {
        if (!isIn(frame, 0, 19) || !isIn(i, 0, 15) || !isIn(b, 0, 255)) {
            return false;
        }
        frames[frame][i] = b;
        return true;
    }

    int peek(int frame, int i) {
        return isIn(frame, 0, 19) && isIn(i, 0, 15) ? frames[frame][i] : NONE;
    }

    boolean set(int p, int k, int v) {
        if (!isIn(p, 0, 2) || !isIn(k, 0, 2)) {
            return false;
        }
        registers[p][k] = v;
        return true;
    }

    int register(int p, int k) {
        return isIn(p, 0, 2) && isIn(k, 0, 2) ? registers[p][k] : 0;
    }

    int call(int p, int number, int a, int b, int c) {
        if (!isIn(p, 0, 2)) {
            return NONE;
        }
        registers[p] = new int[] {a, b, c};
        return trap(p, number);
    }

    int trap(int p, int number) {
        if (!isIn(p, 0, 2)) {
            return NONE;
        }
        int result;
        try {
            result = serve(p, number, registers[p][0], registers[p][1], registers[p][2]);
        } catch (Thrown t) {
            result = t.error;
        }
        registers[p][0] = result;
        traps++;
        return result;
    }

    int traps() {
        return traps;
    }

    int count(int what) {
        switch (what) {
            case 0: return files().size();
            case 1: return names.size();
            case 2: return handles().size();
            case 3: return pipes().size();
            default: return NONE;
        }
    }

    int descriptors(int p) {
        return isIn(p, 0, 2) ? 5 - closed(p).size() : NONE;
    }

    private List<Handle> handles() {
        List<Handle> found = new ArrayList<>();
        for (Handle[] row : descriptors) {
            for (Handle h : row) {
                if (h != null && !found.contains(h)) {
                    found.add(h);
                }
            }
        }
        return found;
    }

    private List<Inode> files() {
        List<Inode> found = new ArrayList<>();
        for (Handle h : handles()) {
            if (h.file != null && !found.contains(h.file)) {
                found.add(h.file);
            }
        }
        for (Inode f : names.values()) {
            if (!found.contains(f)) {
                found.add(f);
            }
        }
        return found;
    }

    private List<Fifo> pipes() {
        List<Fifo> found = new ArrayList<>();
        for (Handle h : handles()) {
            if (h.pipe != null && !found.contains(h.pipe)) {
                found.add(h.pipe);
            }
        }
        return found;
    }

    private List<Integer> closed(int p) {
        List<Integer> found = new ArrayList<>();
        for (int d = 0; d < 5; d++) {
            if (descriptors[p][d] == null) {
                found.add(d);
            }
        }
        return found;
    }

    private boolean isReadable(int p, long address) {
        Page page = address < 0 || address > 255 ? null : pages[p][(int) address / 16];
        return page != null && page.isRead && page.isUser;
    }

    private boolean isWritable(int p, long address) {
        Page page = address < 0 || address > 255 ? null : pages[p][(int) address / 16];
        return page != null && page.isWrite && page.isUser;
    }

    private void requireReadable(int p, int address, int n) {
        for (int i = 0; i < n; i++) {
            require(isReadable(p, (long) address + i), -14);
        }
    }

    private void requireWritable(int p, int address, int n) {
        for (int i = 0; i < n; i++) {
            require(isWritable(p, (long) address + i), -14);
        }
    }

    private int byteAt(int p, int address) {
        return frames[pages[p][address / 16].frame][address % 16];
    }

    private void put(int p, int address, int b) {
        frames[pages[p][address / 16].frame][address % 16] = b;
    }

    private String string(int p, int address) {
        StringBuilder text = new StringBuilder();
        while (true) {
            requireReadable(p, address + text.length(), 1);
            int b = byteAt(p, address + text.length());
            if (b == 0) {
                return text.toString();
            }
            require(text.length() < 7, -14);
            text.append((char) b);
        }
    }

    private List<Integer> addresses(int from, int n) {
        List<Integer> list = new ArrayList<>();
        for (int i = 0; i < n; i++) {
            list.add(from + i);
        }
        return list;
    }

    private Handle handle(int p, int d) {
        require(isIn(d, 0, 4) && descriptors[p][d] != null, -9);
        return descriptors[p][d];
    }

    private int serve(int p, int number, int a, int b, int c) {
        switch (number) {
            case 0: return p;
            case 1: return traps;
            case 2: return open(p, a, b);
            case 3: handle(p, a); descriptors[p][a] = null; return 0;
            case 4: return read(p, a, b, c);
            case 5: return write(p, a, b, c);
            case 6: return seek(p, a, b);
            case 7: return dup(p, a);
            case 8: return unlink(p, a);
            case 9: return link(p, a, b);
            case 10: return stat(p, a, b);
            case 11: return pipe(p, a);
            case 12: return list(p, a, b);
            case 13: return copy(p, a, b, c);
            case 14: return protect(p, a, b);
            case 15: return readv(p, a, b, c);
            case 16: return writev(p, a, b, c);
            case 17: return rename(p, a, b);
            default: return -38;
        }
    }

    private int open(int p, int a, int mode) {
        require(isIn(mode, 0, 15), -22);
        boolean isReading = mode % 2 == 1;
        boolean isWriting = mode / 2 % 2 == 1;
        boolean isMaking = mode / 4 % 2 == 1;
        boolean isEmptying = mode / 8 == 1;
        require(isReading || isWriting, -22);
        require(isWriting || !isEmptying, -22);
        String name = string(p, a);
        require(!name.isEmpty(), -2);
        require(names.containsKey(name) || isMaking, -2);
        require(!closed(p).isEmpty(), -24);
        require(handles().size() < 8, -23);
        require(names.containsKey(name) || (files().size() < 6 && names.size() < 8), -28);
        Handle made = new Handle();
        made.file = names.computeIfAbsent(name, n -> new Inode());
        made.isReading = isReading;
        made.isWriting = isWriting;
        if (isEmptying) {
            made.file.bytes.clear();
        }
        int d = closed(p).get(0);
        descriptors[p][d] = made;
        return d;
    }

    private int dup(int p, int d) {
        Handle h = handle(p, d);
        require(!closed(p).isEmpty(), -24);
        int least = closed(p).get(0);
        descriptors[p][least] = h;
        return least;
    }

    private int seek(int p, int d, int position) {
        Handle h = handle(p, d);
        require(h.pipe == null, -29);
        require(isIn(position, 0, 24), -22);
        h.position = position;
        return position;
    }

    private int read(int p, int d, int address, int n) {
        require(isIn(n, 0, 64), -22);
        Handle h = handle(p, d);
        require(h.isReading, -9);
        requireWritable(p, address, n);
        return readTo(p, h, addresses(address, n));
    }

    private int write(int p, int d, int address, int n) {
        require(isIn(n, 0, 64), -22);
        Handle h = handle(p, d);
        require(h.isWriting, -9);
        requireReadable(p, address, n);
        return writeFrom(p, h, addresses(address, n));
    }

    private int readv(int p, int d, int address, int n) {
        require(isIn(n, 0, 4), -22);
        Handle h = handle(p, d);
        require(h.isReading, -9);
        requireReadable(p, address, 2 * n);
        List<Integer> all = new ArrayList<>();
        for (int i = 0; i < n; i++) {
            requireWritable(p, byteAt(p, address + 2 * i), byteAt(p, address + 2 * i + 1));
            all.addAll(addresses(byteAt(p, address + 2 * i), byteAt(p, address + 2 * i + 1)));
        }
        return readTo(p, h, all);
    }

    private int writev(int p, int d, int address, int n) {
        require(isIn(n, 0, 4), -22);
        Handle h = handle(p, d);
        require(h.isWriting, -9);
        requireReadable(p, address, 2 * n);
        List<Integer> all = new ArrayList<>();
        for (int i = 0; i < n; i++) {
            requireReadable(p, byteAt(p, address + 2 * i), byteAt(p, address + 2 * i + 1));
            all.addAll(addresses(byteAt(p, address + 2 * i), byteAt(p, address + 2 * i + 1)));
        }
        return writeFrom(p, h, all);
    }

    private boolean hasEnd(Fifo pipe, boolean isWriting) {
        for (Handle h : handles()) {
            if (h.pipe == pipe && h.isWriting == isWriting) {
                return true;
            }
        }
        return false;
    }

    private int readTo(int p, Handle h, List<Integer> to) {
        if (to.isEmpty()) {
            return 0;
        }
        int n = 0;
        if (h.file != null) {
            while (n < to.size() && h.position < h.file.bytes.size()) {
                put(p, to.get(n), h.file.bytes.get(h.position));
                h.position++;
                n++;
            }
            return n;
        }
        require(!h.pipe.bytes.isEmpty() || !hasEnd(h.pipe, true), -11);
        while (n < to.size() && !h.pipe.bytes.isEmpty()) {
            put(p, to.get(n), h.pipe.bytes.removeFirst());
            n++;
        }
        return n;
    }

    private int writeFrom(int p, Handle h, List<Integer> from) {
        if (from.isEmpty()) {
            return 0;
        }
        int n = 0;
        if (h.file != null) {
            require(h.position < 24, -28);
            while (h.file.bytes.size() < h.position) {
                h.file.bytes.add(0);
            }
            while (n < from.size() && h.position < 24) {
                if (h.position == h.file.bytes.size()) {
                    h.file.bytes.add(0);
                }
                h.file.bytes.set(h.position, byteAt(p, from.get(n)));
                h.position++;
                n++;
            }
            return n;
        }
        require(hasEnd(h.pipe, false), -32);
        require(h.pipe.bytes.size() < 8, -11);
        while (n < from.size() && h.pipe.bytes.size() < 8) {
            h.pipe.bytes.addLast(byteAt(p, from.get(n)));
            n++;
        }
        return n;
    }

    private int unlink(int p, int a) {
        String name = string(p, a);
        require(names.containsKey(name), -2);
        names.remove(name);
        return 0;
    }

    private int link(int p, int a, int b) {
        String name = string(p, a);
        String other = string(p, b);
        require(names.containsKey(name) && !other.isEmpty(), -2);
        require(!names.containsKey(other), -17);
        require(names.size() < 8, -28);
        names.put(other, names.get(name));
        return 0;
    }

    private int rename(int p, int a, int b) {
        String name = string(p, a);
        String other = string(p, b);
        require(names.containsKey(name) && !other.isEmpty(), -2);
        names.put(other, names.remove(name));
        return 0;
    }

    private int stat(int p, int a, int to) {
        String name = string(p, a);
        requireWritable(p, to, 3);
        require(names.containsKey(name), -2);
        Inode file = names.get(name);
        IntPredicate isNamed = i -> new ArrayList<>(names.values()).get(i) == file;
        put(p, to, file.bytes.size());
        put(p, to + 1, (int) java.util.stream.IntStream.range(0, names.size()).filter(isNamed).count());
        put(p, to + 2, (int) handles().stream().filter(h -> h.file == file).count());
        return 0;
    }

    private int pipe(int p, int to) {
        requireWritable(p, to, 2);
        require(closed(p).size() >= 2, -24);
        require(handles().size() <= 6 && pipes().size() < 2, -23);
        Fifo made = new Fifo();
        for (int end = 0; end < 2; end++) {
            Handle h = new Handle();
            h.pipe = made;
            h.isReading = end == 0;
            h.isWriting = end == 1;
            int d = closed(p).get(0);
            descriptors[p][d] = h;
            put(p, to + end, d);
        }
        return 0;
    }

    private int list(int p, int k, int to) {
        require(isIn(k, 0, names.size() - 1), -2);
        String name = new ArrayList<>(names.keySet()).get(k);
        requireWritable(p, to, name.length() + 1);
        for (int i = 0; i < name.length(); i++) {
            put(p, to + i, name.charAt(i));
        }
        put(p, to + name.length(), 0);
        return name.length();
    }

    private int copy(int p, int to, int from, int n) {
        require(isIn(n, 0, 64), -22);
        requireReadable(p, from, n);
        requireWritable(p, to, n);
        int[] taken = new int[n];
        for (int i = 0; i < n; i++) {
            taken[i] = byteAt(p, from + i);
        }
        for (int i = 0; i < n; i++) {
            put(p, to + i, taken[i]);
        }
        return n;
    }

    private int protect(int p, int page, int flags) {
        require(isIn(page, 0, 15) && isIn(flags, 0, 3), -22);
        Page seen = pages[p][page];
        require(seen != null && seen.isUser, -14);
        int before = (seen.isRead ? 1 : 0) + (seen.isWrite ? 2 : 0);
        seen.isRead = flags % 2 == 1;
        seen.isWrite = flags / 2 == 1;
        return before;
    }
}
