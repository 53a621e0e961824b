import java.util.Arrays;

/** The way into a small kernel, as ../shared/DOC.md promises it. */
public final class TrapGate {
    public static final int NONE = -1;

    private static final int PROCESSES = 3;
    private static final int REGISTERS = 3;
    private static final int PAGES = 16;
    private static final int FRAMES = 20;
    private static final int FRAME_BYTES = 16;
    private static final int ADDRESSES = PAGES * FRAME_BYTES;
    private static final int FILES = 6;
    private static final int FILE_BYTES = 24;
    private static final int NAMES = 8;
    private static final int NAME_BYTES = 7;
    private static final int OPENS = 8;
    private static final int DESCRIPTORS = 5;
    private static final int PIPES = 2;
    private static final int PIPE_BYTES = 8;
    private static final int MOST_BYTES = 64;
    private static final int MOST_RANGES = 4;

    private static final int READ = 1;
    private static final int WRITE = 2;
    private static final int READ_WRITE = 3;
    private static final int USER = 4;
    private static final int ALL_FLAGS = 7;
    private static final int MAKE = 4;
    private static final int EMPTY = 8;
    private static final int ALL_MODES = 15;

    private static final int NOENT = -2;
    private static final int BADF = -9;
    private static final int AGAIN = -11;
    private static final int FAULT = -14;
    private static final int EXIST = -17;
    private static final int INVAL = -22;
    private static final int NFILE = -23;
    private static final int MFILE = -24;
    private static final int NOSPC = -28;
    private static final int SPIPE = -29;
    private static final int BROKEN_PIPE = -32;
    private static final int NOSYS = -38;

    private static final long NO_TEXT = -1;
    private static final long EMPTY_TEXT = 0;

    private final Memory memory = new Memory();
    private final int[] registers = new int[PROCESSES * REGISTERS];
    private final Names names = new Names();
    private final Opens opens = new Opens();
    private final StoredFile[] files = new StoredFile[FILES];
    private final Pipe[] pipes = new Pipe[PIPES];
    private final Ranges ranges = new Ranges();
    private final int[] buffer = new int[MOST_BYTES];
    private int trapsMade = 0;

    public TrapGate() {
        for (int i = 0; i < FILES; i++) {
            files[i] = new StoredFile();
        }
        for (int i = 0; i < PIPES; i++) {
            pipes[i] = new Pipe();
        }
    }

    public boolean map(int p, int page, int frame, int flags) {
        if (!isProcess(p) || !isWithin(page, PAGES) || !isWithin(frame, FRAMES) || flags < 0 || flags > ALL_FLAGS) {
            return false;
        }
        memory.setEntry(p, page, 8 * frame + flags);
        return true;
    }

    public boolean unmap(int p, int page) {
        if (page(p, page) == NONE) {
            return false;
        }
        memory.setEntry(p, page, NONE);
        return true;
    }

    public int page(int p, int page) {
        return isProcess(p) && isWithin(page, PAGES) ? memory.entry(p, page) : NONE;
    }

    public boolean poke(int frame, int i, int b) {
        if (!isWithin(frame, FRAMES) || !isWithin(i, FRAME_BYTES) || b < 0 || b > 255) {
            return false;
        }
        memory.bytes[frame * FRAME_BYTES + i] = b;
        return true;
    }

    public int peek(int frame, int i) {
        if (!isWithin(frame, FRAMES) || !isWithin(i, FRAME_BYTES)) {
            return NONE;
        }
        return memory.bytes[frame * FRAME_BYTES + i];
    }

    public boolean set(int p, int k, int v) {
        if (!isProcess(p) || !isWithin(k, REGISTERS)) {
            return false;
        }
        registers[p * REGISTERS + k] = v;
        return true;
    }

    public int register(int p, int k) {
        return isProcess(p) && isWithin(k, REGISTERS) ? registers[p * REGISTERS + k] : 0;
    }

    public int trap(int p, int number) {
        if (!isProcess(p)) {
            return NONE;
        }
        int result = serve(p, number);
        registers[p * REGISTERS] = result;
        trapsMade++;
        return result;
    }

    public int call(int p, int number, int a, int b, int c) {
        if (!isProcess(p)) {
            return NONE;
        }
        registers[p * REGISTERS] = a;
        registers[p * REGISTERS + 1] = b;
        registers[p * REGISTERS + 2] = c;
        return trap(p, number);
    }

    public int traps() {
        return trapsMade;
    }

    public int count(int what) {
        switch (what) {
            case 0: return filesThere();
            case 1: return names.size;
            case 2: return opens.there();
            case 3: return pipesThere();
            default: return NONE;
        }
    }

    public int descriptors(int p) {
        return isProcess(p) ? opens.descriptorsOf(p) : NONE;
    }

    private static boolean isWithin(int i, int limit) {
        return i >= 0 && i < limit;
    }

    private static boolean isProcess(int p) {
        return isWithin(p, PROCESSES);
    }

    /** Does the call that a trap asks for, but leaves A0 and the count of traps to the trap. */
    private int serve(int p, int number) {
        int a = registers[p * REGISTERS];
        int b = registers[p * REGISTERS + 1];
        int c = registers[p * REGISTERS + 2];
        switch (number) {
            case 0: return p;
            case 1: return trapsMade;
            case 2: return open(p, a, b);
            case 3: return close(p, a);
            case 4: return transfer(p, READ, a, b, c);
            case 5: return transfer(p, WRITE, a, b, c);
            case 6: return seek(p, a, b);
            case 7: return duplicate(p, a);
            case 8: return unlink(p, a);
            case 9: return link(p, a, b);
            case 10: return stat(p, a, b);
            case 11: return makePipe(p, a);
            case 12: return list(p, a, b);
            case 13: return copy(p, a, b, c);
            case 14: return protect(p, a, b);
            case 15: return transferRanges(p, READ, a, b, c);
            case 16: return transferRanges(p, WRITE, a, b, c);
            case 17: return rename(p, a, b);
            default: return NOSYS;
        }
    }

    private int open(int p, int address, int mode) {
        if (!isOpenMode(mode)) {
            return INVAL;
        }
        long text = memory.textAt(p, address);
        if (text == NO_TEXT) {
            return FAULT;
        }
        int name = names.find(text);
        if (text == EMPTY_TEXT || (name == NONE && (mode & MAKE) == 0)) {
            return NOENT;
        }
        int descriptor = opens.leastClosed(p, 0);
        if (descriptor == NONE) {
            return MFILE;
        }
        int open = opens.leastFree(0);
        if (open == NONE) {
            return NFILE;
        }
        int file = name == NONE ? leastFreeFile() : names.files[name];
        if (file == NONE || (name == NONE && names.isFull())) {
            return NOSPC;
        }
        if (name == NONE) {
            names.add(text, file);
        }
        if (name == NONE || (mode & EMPTY) != 0) {
            files[file].length = 0;
        }
        opens.make(open, file, mode & READ_WRITE);
        opens.attach(p, descriptor, open);
        return descriptor;
    }

    private static boolean isOpenMode(int mode) {
        if (mode < 0 || mode > ALL_MODES || (mode & READ_WRITE) == 0) {
            return false;
        }
        return (mode & EMPTY) == 0 || (mode & WRITE) != 0;
    }

    private int close(int p, int descriptor) {
        if (opens.at(p, descriptor) == NONE) {
            return BADF;
        }
        opens.detach(p, descriptor);
        return 0;
    }

    private int duplicate(int p, int descriptor) {
        int open = opens.at(p, descriptor);
        if (open == NONE) {
            return BADF;
        }
        int other = opens.leastClosed(p, 0);
        if (other == NONE) {
            return MFILE;
        }
        opens.attach(p, other, open);
        return other;
    }

    private int seek(int p, int descriptor, int position) {
        int open = opens.at(p, descriptor);
        if (open == NONE) {
            return BADF;
        }
        if (opens.isOfPipe(open)) {
            return SPIPE;
        }
        if (position < 0 || position > FILE_BYTES) {
            return INVAL;
        }
        opens.positions[open] = position;
        return position;
    }

    /** READ or WRITE, as the mode says that the open must have. */
    private int transfer(int p, int mode, int descriptor, int address, int n) {
        if (n < 0 || n > MOST_BYTES) {
            return INVAL;
        }
        int open = opens.at(p, descriptor);
        if (!opens.isFor(open, mode)) {
            return BADF;
        }
        if (!memory.allows(p, address, n, flagFor(mode))) {
            return FAULT;
        }
        ranges.setOnly(address, n);
        return mode == READ ? readOpen(p, open) : writeOpen(p, open);
    }

    /** READV or WRITEV, as the mode says that the open must have. */
    private int transferRanges(int p, int mode, int descriptor, int address, int pairs) {
        if (pairs < 0 || pairs > MOST_RANGES) {
            return INVAL;
        }
        int open = opens.at(p, descriptor);
        if (!opens.isFor(open, mode)) {
            return BADF;
        }
        if (!takeRanges(p, address, pairs, flagFor(mode))) {
            return FAULT;
        }
        return mode == READ ? readOpen(p, open) : writeOpen(p, open);
    }

    /** What is read from an open is put into memory, and what is written to it is taken from there. */
    private static int flagFor(int mode) {
        return mode == READ ? WRITE : READ;
    }

    /** Takes the ranges from the pairs at an address; false when the pairs or a range may not be used so. */
    private boolean takeRanges(int p, int address, int pairs, int flag) {
        if (!memory.allows(p, address, 2 * pairs, READ)) {
            return false;
        }
        ranges.clear();
        for (int i = 0; i < pairs; i++) {
            int start = memory.load(p, address + 2 * i);
            int length = memory.load(p, address + 2 * i + 1);
            if (!memory.allows(p, start, length, flag)) {
                return false;
            }
            ranges.add(start, length);
        }
        return true;
    }

    /** READ from "0 when A2 is 0" on; the ranges have been checked. */
    private int readOpen(int p, int open) {
        int wanted = ranges.total();
        if (wanted == 0) {
            return 0;
        }
        int result = opens.isOfPipe(open) ? takeFromPipe(opens.pipeOf(open), wanted) : takeFromFile(open, wanted);
        scatter(p, result);
        return result;
    }

    private int takeFromFile(int open, int wanted) {
        StoredFile file = files[opens.targets[open]];
        int position = opens.positions[open];
        int n = Math.max(0, Math.min(wanted, file.length - position));
        file.copyOut(position, buffer, n);
        opens.positions[open] = position + n;
        return n;
    }

    private int takeFromPipe(int number, int wanted) {
        Pipe pipe = pipes[number];
        if (pipe.size == 0) {
            return opens.countOf(FILES + number, WRITE) > 0 ? AGAIN : 0;
        }
        int n = Math.min(wanted, pipe.size);
        pipe.takeOut(buffer, n);
        return n;
    }

    /** WRITE from "0 when A2 is 0" on; the ranges have been checked. */
    private int writeOpen(int p, int open) {
        int offered = ranges.total();
        if (offered == 0) {
            return 0;
        }
        // No file and no pipe has room for more than the buffer has.
        int n = Math.min(offered, MOST_BYTES);
        gather(p, n);
        return opens.isOfPipe(open) ? putInPipe(opens.pipeOf(open), n) : putInFile(open, n);
    }

    private int putInFile(int open, int offered) {
        int position = opens.positions[open];
        if (position == FILE_BYTES) {
            return NOSPC;
        }
        int n = Math.min(offered, FILE_BYTES - position);
        files[opens.targets[open]].putIn(position, buffer, n);
        opens.positions[open] = position + n;
        return n;
    }

    private int putInPipe(int number, int offered) {
        Pipe pipe = pipes[number];
        if (opens.countOf(FILES + number, READ) == 0) {
            return BROKEN_PIPE;
        }
        if (pipe.size == PIPE_BYTES) {
            return AGAIN;
        }
        int n = Math.min(offered, PIPE_BYTES - pipe.size);
        pipe.putIn(buffer, n);
        return n;
    }

    /** Puts the first n bytes of the buffer to the ranges; none when n is an error. */
    private void scatter(int p, int n) {
        for (int i = 0; i < n; i++) {
            memory.store(p, ranges.addressOf(i), buffer[i]);
        }
    }

    /** Takes the first n bytes of the ranges into the buffer. */
    private void gather(int p, int n) {
        for (int i = 0; i < n; i++) {
            buffer[i] = memory.load(p, ranges.addressOf(i));
        }
    }

    private int unlink(int p, int address) {
        long text = memory.textAt(p, address);
        if (text == NO_TEXT) {
            return FAULT;
        }
        int name = names.find(text);
        if (name == NONE) {
            return NOENT;
        }
        names.remove(name);
        return 0;
    }

    private int link(int p, int address, int otherAddress) {
        long text = memory.textAt(p, address);
        long other = memory.textAt(p, otherAddress);
        if (text == NO_TEXT || other == NO_TEXT) {
            return FAULT;
        }
        int name = names.find(text);
        if (name == NONE || other == EMPTY_TEXT) {
            return NOENT;
        }
        if (names.find(other) != NONE) {
            return EXIST;
        }
        if (names.isFull()) {
            return NOSPC;
        }
        names.add(other, names.files[name]);
        return 0;
    }

    private int rename(int p, int address, int otherAddress) {
        long text = memory.textAt(p, address);
        long other = memory.textAt(p, otherAddress);
        if (text == NO_TEXT || other == NO_TEXT) {
            return FAULT;
        }
        int name = names.find(text);
        if (name == NONE || other == EMPTY_TEXT) {
            return NOENT;
        }
        if (text == other) {
            return 0;
        }
        int file = names.files[name];
        names.remove(name);
        int replaced = names.find(other);
        if (replaced != NONE) {
            names.remove(replaced);
        }
        names.add(other, file);
        return 0;
    }

    private int stat(int p, int address, int to) {
        long text = memory.textAt(p, address);
        if (text == NO_TEXT || !memory.allows(p, to, 3, WRITE)) {
            return FAULT;
        }
        int name = names.find(text);
        if (name == NONE) {
            return NOENT;
        }
        int file = names.files[name];
        memory.store(p, to, files[file].length);
        memory.store(p, to + 1, names.countOf(file));
        memory.store(p, to + 2, opens.countOf(file, READ_WRITE));
        return 0;
    }

    private int makePipe(int p, int to) {
        if (!memory.allows(p, to, 2, WRITE)) {
            return FAULT;
        }
        int reading = opens.leastClosed(p, 0);
        int writing = opens.leastClosed(p, reading + 1);
        if (reading == NONE || writing == NONE) {
            return MFILE;
        }
        int readingEnd = opens.leastFree(0);
        int writingEnd = opens.leastFree(readingEnd + 1);
        int pipe = leastFreePipe();
        if (readingEnd == NONE || writingEnd == NONE || pipe == NONE) {
            return NFILE;
        }
        pipes[pipe].size = 0;
        opens.make(readingEnd, FILES + pipe, READ);
        opens.make(writingEnd, FILES + pipe, WRITE);
        opens.attach(p, reading, readingEnd);
        opens.attach(p, writing, writingEnd);
        memory.store(p, to, reading);
        memory.store(p, to + 1, writing);
        return 0;
    }

    private int list(int p, int name, int to) {
        if (!isWithin(name, names.size)) {
            return NOENT;
        }
        long text = names.texts[name];
        int length = Names.lengthOf(text);
        if (!memory.allows(p, to, length + 1, WRITE)) {
            return FAULT;
        }
        for (int i = 0; i < length; i++) {
            memory.store(p, to + i, Names.byteOf(text, i));
        }
        memory.store(p, to + length, 0);
        return length;
    }

    private int copy(int p, int to, int from, int n) {
        if (n < 0 || n > MOST_BYTES) {
            return INVAL;
        }
        if (!memory.allows(p, from, n, READ) || !memory.allows(p, to, n, WRITE)) {
            return FAULT;
        }
        ranges.setOnly(from, n);
        gather(p, n);
        ranges.setOnly(to, n);
        scatter(p, n);
        return n;
    }

    private int protect(int p, int page, int flags) {
        if (!isWithin(page, PAGES) || flags < 0 || flags > READ_WRITE) {
            return INVAL;
        }
        int entry = memory.entry(p, page);
        if (entry == NONE || (entry & USER) == 0) {
            return FAULT;
        }
        int before = entry & READ_WRITE;
        memory.setEntry(p, page, entry - before + flags);
        return before;
    }

    private boolean isFileThere(int file) {
        return names.countOf(file) > 0 || opens.countOf(file, READ_WRITE) > 0;
    }

    private boolean isPipeThere(int pipe) {
        return opens.countOf(FILES + pipe, READ_WRITE) > 0;
    }

    private int filesThere() {
        int there = 0;
        for (int i = 0; i < FILES; i++) {
            if (isFileThere(i)) {
                there++;
            }
        }
        return there;
    }

    private int pipesThere() {
        int there = 0;
        for (int i = 0; i < PIPES; i++) {
            if (isPipeThere(i)) {
                there++;
            }
        }
        return there;
    }

    private int leastFreeFile() {
        for (int i = 0; i < FILES; i++) {
            if (!isFileThere(i)) {
                return i;
            }
        }
        return NONE;
    }

    private int leastFreePipe() {
        for (int i = 0; i < PIPES; i++) {
            if (!isPipeThere(i)) {
                return i;
            }
        }
        return NONE;
    }

    /** The frames, and the pages of all processes. */
    private static final class Memory {
        private final int[] bytes = new int[FRAMES * FRAME_BYTES];
        // 8 * frame + flags of each page, or NONE: a page's flags mean nothing without its frame.
        private final int[] entries = new int[PROCESSES * PAGES];

        Memory() {
            Arrays.fill(entries, NONE);
        }

        int entry(int p, int page) {
            return entries[p * PAGES + page];
        }

        void setEntry(int p, int page, int entry) {
            entries[p * PAGES + page] = entry;
        }

        /** Whether n bytes at an address are readable (flag READ) or writable (flag WRITE). */
        boolean allows(int p, int address, int n, int flag) {
            if (n == 0) {
                return true;
            }
            // The subtraction can't wrap round, as address + n could.
            if (n < 0 || n > ADDRESSES || address < 0 || address > ADDRESSES - n) {
                return false;
            }
            int last = (address + n - 1) / FRAME_BYTES;
            int needed = flag | USER;
            for (int page = address / FRAME_BYTES; page <= last; page++) {
                int entry = entry(p, page);
                if (entry == NONE || (entry & needed) != needed) {
                    return false;
                }
            }
            return true;
        }

        /** The byte at an address that has been found readable. */
        int load(int p, int address) {
            int frame = entries[p * PAGES + address / FRAME_BYTES] / 8;
            return bytes[frame * FRAME_BYTES + address % FRAME_BYTES];
        }

        /** Changes the byte at an address that has been found writable. */
        void store(int p, int address, int b) {
            int frame = entries[p * PAGES + address / FRAME_BYTES] / 8;
            bytes[frame * FRAME_BYTES + address % FRAME_BYTES] = b;
        }

        /** The string at an address, packed as Names has it; NO_TEXT when it is a FAULT. */
        long textAt(int p, int address) {
            long text = EMPTY_TEXT;
            for (int i = 0; i <= NAME_BYTES; i++) {
                if (!allows(p, address + i, 1, READ)) {
                    return NO_TEXT;
                }
                int b = load(p, address + i);
                if (b == 0) {
                    return text << 8 * (NAME_BYTES - i);
                }
                text = text << 8 | b;
            }
            return NO_TEXT;
        }
    }

    /**
     * The names in the order of the dictionary. A name is packed into a long, its first byte highest and zeros behind
     * its last: as no name has a 0 in it, longs compare as the dictionary does, and no text need be made.
     */
    private static final class Names {
        private final long[] texts = new long[NAMES];
        private final int[] files = new int[NAMES];
        private int size = 0;

        static int byteOf(long text, int i) {
            return (int) (text >>> 8 * (NAME_BYTES - 1 - i)) & 255;
        }

        static int lengthOf(long text) {
            int length = 0;
            while (length < NAME_BYTES && byteOf(text, length) != 0) {
                length++;
            }
            return length;
        }

        boolean isFull() {
            return size == NAMES;
        }

        int find(long text) {
            for (int i = 0; i < size; i++) {
                if (texts[i] == text) {
                    return i;
                }
            }
            return NONE;
        }

        int countOf(int file) {
            int found = 0;
            for (int i = 0; i < size; i++) {
                if (files[i] == file) {
                    found++;
                }
            }
            return found;
        }

        /** Adds a name that is not there yet; the caller has seen that there is room. */
        void add(long text, int file) {
            int i = size;
            while (i > 0 && texts[i - 1] > text) {
                texts[i] = texts[i - 1];
                files[i] = files[i - 1];
                i--;
            }
            texts[i] = text;
            files[i] = file;
            size++;
        }

        void remove(int name) {
            size--;
            for (int i = name; i < size; i++) {
                texts[i] = texts[i + 1];
                files[i] = files[i + 1];
            }
        }
    }

    /**
     * The opens, and the descriptors that stand for them. Whether an open, and with it a pipe's end or a file without
     * a name, is there at all is always told from how many descriptors stand for it, so that nothing has to be undone.
     */
    private static final class Opens {
        private final int[] standsFor = new int[PROCESSES * DESCRIPTORS];
        private final int[] holders = new int[OPENS];
        // A file's number, or FILES + a pipe's.
        private final int[] targets = new int[OPENS];
        // A pipe's reading end has the mode READ, its writing end WRITE.
        private final int[] modes = new int[OPENS];
        private final int[] positions = new int[OPENS];

        Opens() {
            Arrays.fill(standsFor, NONE);
        }

        /** The open that a descriptor stands for; NONE when there is no such descriptor or it is closed. */
        int at(int p, int descriptor) {
            return isWithin(descriptor, DESCRIPTORS) ? standsFor[p * DESCRIPTORS + descriptor] : NONE;
        }

        boolean isFor(int open, int mode) {
            return open != NONE && (modes[open] & mode) != 0;
        }

        boolean isOfPipe(int open) {
            return targets[open] >= FILES;
        }

        int pipeOf(int open) {
            return targets[open] - FILES;
        }

        int leastClosed(int p, int from) {
            for (int i = from; i < DESCRIPTORS; i++) {
                if (standsFor[p * DESCRIPTORS + i] == NONE) {
                    return i;
                }
            }
            return NONE;
        }

        int descriptorsOf(int p) {
            int found = 0;
            for (int i = 0; i < DESCRIPTORS; i++) {
                if (standsFor[p * DESCRIPTORS + i] != NONE) {
                    found++;
                }
            }
            return found;
        }

        int leastFree(int from) {
            for (int i = from; i < OPENS; i++) {
                if (holders[i] == 0) {
                    return i;
                }
            }
            return NONE;
        }

        int there() {
            int found = 0;
            for (int i = 0; i < OPENS; i++) {
                if (holders[i] > 0) {
                    found++;
                }
            }
            return found;
        }

        /** How many opens there are of a target, with one of the modes at least. */
        int countOf(int target, int someModes) {
            int found = 0;
            for (int i = 0; i < OPENS; i++) {
                if (holders[i] > 0 && targets[i] == target && (modes[i] & someModes) != 0) {
                    found++;
                }
            }
            return found;
        }

        void make(int open, int target, int mode) {
            targets[open] = target;
            modes[open] = mode;
            positions[open] = 0;
        }

        void attach(int p, int descriptor, int open) {
            standsFor[p * DESCRIPTORS + descriptor] = open;
            holders[open]++;
        }

        void detach(int p, int descriptor) {
            holders[standsFor[p * DESCRIPTORS + descriptor]]--;
            standsFor[p * DESCRIPTORS + descriptor] = NONE;
        }
    }

    /** The bytes of a file. */
    private static final class StoredFile {
        private final int[] bytes = new int[FILE_BYTES];
        private int length = 0;

        void copyOut(int position, int[] to, int n) {
            for (int i = 0; i < n; i++) {
                to[i] = bytes[position + i];
            }
        }

        void putIn(int position, int[] from, int n) {
            // Bytes from before the file was emptied may still stand behind its end.
            for (int i = length; i < position; i++) {
                bytes[i] = 0;
            }
            for (int i = 0; i < n; i++) {
                bytes[position + i] = from[i];
            }
            length = Math.max(length, position + n);
        }
    }

    /** The bytes in a pipe, the one that came first at 0. */
    private static final class Pipe {
        private final int[] bytes = new int[PIPE_BYTES];
        private int size = 0;

        void takeOut(int[] to, int n) {
            for (int i = 0; i < n; i++) {
                to[i] = bytes[i];
            }
            size -= n;
            for (int i = 0; i < size; i++) {
                bytes[i] = bytes[i + n];
            }
        }

        void putIn(int[] from, int n) {
            for (int i = 0; i < n; i++) {
                bytes[size + i] = from[i];
            }
            size += n;
        }
    }

    /** Ranges of addresses, one behind the other, that a call reads from or writes to. */
    private static final class Ranges {
        private final int[] starts = new int[MOST_RANGES];
        private final int[] lengths = new int[MOST_RANGES];
        private int size = 0;

        void clear() {
            size = 0;
        }

        void add(int start, int length) {
            starts[size] = start;
            lengths[size] = length;
            size++;
        }

        void setOnly(int start, int length) {
            clear();
            add(start, length);
        }

        int total() {
            int sum = 0;
            for (int i = 0; i < size; i++) {
                sum += lengths[i];
            }
            return sum;
        }

        /** The address of byte k of all of them, k being below their total. */
        int addressOf(int k) {
            int left = k;
            int i = 0;
            while (i < size - 1 && left >= lengths[i]) {
                left -= lengths[i];
                i++;
            }
            return starts[i] + left;
        }
    }
}
