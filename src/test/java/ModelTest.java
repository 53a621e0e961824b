import java.util.TreeSet;

/** All promises: long runs of mixed calls, held against the model. The runs are the same every time. */
public final class ModelTest {
    private static final int RUNS = 4000;
    private static final int MOST_CALLS = 512;
    private static final int CALLS_OF_FULL_LOOK = 320 + 48 + 9 + 3 + 4 + 1;
    private static final int MOST_CALLS_OF_STEP = 10;
    private static final int[] EDGES = {Integer.MIN_VALUE, -17, -1, 0, 1, 15, 16, 240, 253, 254, 255, 256, 257, Integer.MAX_VALUE};
    private static final String[] TEXTS = {"", "a", "b", "ab", "abc", "b\u00ff", "abcdefg", "abcdefh", "zzzzzzzz", "\u00ffx", "c", "d"};

    private static final TreeSet<String> reached = new TreeSet<>();
    private static long state = 20261115;

    private final TrapGate gate = new TrapGate();
    private final Model model = new Model();
    // Names come to their limit only where there are many strings and few names are taken away.
    private final boolean isFilling;
    private int calls = 0;

    private ModelTest(boolean isFilling) {
        this.isFilling = isFilling;
    }

    public static void main(String[] args) {
        for (int run = 0; run < RUNS && !Due.isAnyWrong(); run++) {
            new ModelTest(run % 4 == 1).run(run % 2 == 0);
        }
        dueReached();
        Due.end();
    }

    private static int below(int n) {
        state = state * 6364136223846793005L + 1442695040888963407L;
        return (int) ((state >>> 33) % n);
    }

    private static boolean isChance(int percent) {
        return below(100) < percent;
    }

    /** Half of the runs end early, so that the whole state can be looked at within the calls that an object has. */
    private void run(boolean isLookedAt) {
        prepare();
        int last = isLookedAt ? MOST_CALLS - CALLS_OF_FULL_LOOK - MOST_CALLS_OF_STEP : MOST_CALLS - MOST_CALLS_OF_STEP;
        while (calls < last) {
            step();
        }
        if (isLookedAt) {
            lookAtAll();
        }
    }

    /** Most pages of most processes can be used, some with one frame; the rest is as the steps make it. */
    private void prepare() {
        for (int page = 0; isFilling && page < 16; page++) {
            map(0, page, page, 7);
            poke(page, 0, 'a' + page);
        }
        int mapped = isFilling ? 3 : 6 + below(20);
        for (int i = 0; i < mapped; i++) {
            int p = isChance(60) ? 0 : below(3);
            map(p, below(16), below(20), isChance(80) ? 7 : below(8));
        }
        for (int i = 0; i < 6; i++) {
            putText();
        }
    }

    private void step() {
        int kind = below(100);
        if (kind < 70) {
            trap();
        } else if (kind < 76) {
            putText();
        } else if (kind < 80) {
            putPairs();
        } else if (kind < 84) {
            map(someProcess(), isChance(95) ? below(16) : edge(), isChance(95) ? below(20) : edge(), isChance(80) ? 7 : below(10) - 1);
        } else if (kind < 85) {
            int p = someProcess();
            int page = isChance(90) ? below(16) : edge();
            same("unmap", gate.unmap(p, page), model.unmap(p, page));
        } else {
            look();
        }
    }

    private void look() {
        int p = someProcess();
        int k = isChance(80) ? below(16) : edge();
        int frame = isChance(90) ? below(20) : edge();
        switch (below(7)) {
            case 0: same("page", gate.page(p, k), model.page(p, k)); break;
            case 1: same("peek", gate.peek(frame, k), model.peek(frame, k)); break;
            case 2: same("register", gate.register(p, k % 4), model.register(p, k % 4)); break;
            case 3: same("traps", gate.traps(), model.traps()); break;
            case 4: same("count", gate.count(k % 5), model.count(k % 5)); break;
            case 5: same("descriptors", gate.descriptors(p), model.descriptors(p)); break;
            default: poke(frame, k, isChance(90) ? below(256) : edge()); break;
        }
    }

    private void lookAtAll() {
        for (int i = 0; i < 320; i++) {
            same("peek", gate.peek(i / 16, i % 16), model.peek(i / 16, i % 16));
        }
        for (int i = 0; i < 48; i++) {
            same("page", gate.page(i / 16, i % 16), model.page(i / 16, i % 16));
        }
        for (int i = 0; i < 9; i++) {
            same("register", gate.register(i / 3, i % 3), model.register(i / 3, i % 3));
        }
        for (int p = 0; p < 3; p++) {
            same("descriptors", gate.descriptors(p), model.descriptors(p));
        }
        for (int what = 0; what < 4; what++) {
            same("count", gate.count(what), model.count(what));
        }
        same("traps", gate.traps(), model.traps());
    }

    private void trap() {
        int p = someProcess();
        int number = isChance(98) ? below(18) : isChance(50) ? 18 : edge();
        if (isFilling && (number == 8 || number == 17) && isChance(95)) {
            number = number == 8 ? 3 : 9;
        }
        int a = 0;
        int b = 0;
        int c = edge();
        switch (number) {
            case 2: a = textAddress(p); b = isChance(70) ? 4 + 1 + below(3) : below(19) - 1; break;
            case 3: if (isChance(30)) { number = 2; a = textAddress(p); b = 7; } else { a = descriptor(); } break;
            case 4: case 5: a = descriptor(); b = address(p); c = length(); break;
            case 6: a = descriptor(); b = isChance(90) ? below(27) - 1 : edge(); break;
            case 7: a = descriptor(); break;
            case 8: a = textAddress(p); break;
            case 9: case 17: a = textAddress(p); b = textAddress(p); break;
            case 10: a = textAddress(p); b = address(p); break;
            case 11: a = address(p); break;
            case 12: a = isChance(90) ? below(9) : edge(); b = address(p); break;
            case 13: a = address(p); b = address(p); c = length(); break;
            case 14: a = isChance(90) ? below(17) : edge(); b = isChance(80) ? 3 : below(6) - 1; break;
            case 15: case 16: a = descriptor(); b = pairsAddress(p); c = isChance(90) ? below(5) : below(8) - 2; break;
            default: a = edge(); b = edge(); break;
        }
        trapWith(p, number, a, b, c);
    }

    private void trapWith(int p, int number, int a, int b, int c) {
        String call = "call(" + p + ", " + number + ", " + a + ", " + b + ", " + c + ")";
        int want;
        if (isChance(90)) {
            want = model.call(p, number, a, b, c);
            same(call, gate.call(p, number, a, b, c), want);
        } else {
            int[] values = {a, b, c};
            for (int k = 0; k < 3; k++) {
                same("set", gate.set(p, k, values[k]), model.set(p, k, values[k]));
            }
            same("set", gate.set(p, 3, 1), model.set(p, 3, 1));
            want = model.trap(p, number);
            same("trap as " + call, gate.trap(p, number), want);
        }
        reached.add((number < 0 || number > 17 ? "other" : number) + (want < 0 ? " " + want : want > 0 ? " more" : " 0"));
    }

    private static int someProcess() {
        int kind = below(100);
        return kind < 60 ? 0 : kind < 98 ? 1 + below(2) : isChance(50) ? 3 : edge();
    }

    private static int edge() {
        return EDGES[below(EDGES.length)];
    }

    private static int descriptor() {
        return isChance(95) ? below(5) : below(8) - 2;
    }

    private static int length() {
        return isChance(70) ? below(12) : isChance(80) ? below(65) : below(70) - 3;
    }

    /** Mostly an address in a page that has a frame: looked for in the model, which tells it without a call. */
    private int address(int p) {
        if (isChance(4)) {
            return edge();
        }
        int page = below(16);
        for (int i = 0; i < 16 && model.page(p, page) == Model.NONE; i++) {
            page = (page + 1) % 16;
        }
        return 16 * page + (isChance(80) ? below(16) : 12 + below(4));
    }

    private int textAddress(int p) {
        int address = address(p);
        return isChance(80) ? address / 16 * 16 : address;
    }

    private int pairsAddress(int p) {
        int address = address(p);
        return isChance(80) ? address / 16 * 16 + 8 : address;
    }

    /** Strings stand at the beginnings of frames mostly, pairs in their middles. */
    private void putText() {
        String text = TEXTS[below(TEXTS.length)];
        int frame = below(20);
        for (int i = 0; i <= text.length(); i++) {
            poke(frame, i, i < text.length() ? text.charAt(i) : 0);
        }
    }

    private void putPairs() {
        int frame = below(20);
        for (int i = 8; i < 16; i += 2) {
            poke(frame, i, address(0) & 255);
            poke(frame, i + 1, isChance(90) ? below(7) : below(256));
        }
    }

    private void poke(int frame, int i, int b) {
        same("poke", gate.poke(frame, i, b), model.poke(frame, i, b));
    }

    private void map(int p, int page, int frame, int flags) {
        same("map", gate.map(p, page, frame, flags), model.map(p, page, frame, flags));
    }

    private void same(String call, int got, int want) {
        calls++;
        Due.is(call + ", call " + calls + " of a run,", got, want);
    }

    private void same(String call, boolean got, boolean want) {
        same(call, got ? 1 : 0, want ? 1 : 0);
    }

    /** A model is of no use for what no run comes to: every result of every call has to be met. */
    private static void dueReached() {
        String[] all = {
            "0 0", "0 more", "1 0", "1 more", "2 -22", "2 -14", "2 -2", "2 -24", "2 -23", "2 -28", "2 0", "2 more",
            "3 -9", "3 0", "4 -22", "4 -9", "4 -14", "4 -11", "4 0", "4 more",
            "5 -22", "5 -9", "5 -14", "5 -28", "5 -32", "5 -11", "5 0", "5 more", "6 -9", "6 -29", "6 -22", "6 0", "6 more",
            "7 -9", "7 -24", "7 more", "8 -14", "8 -2", "8 0", "9 -14", "9 -2", "9 -17", "9 -28", "9 0",
            "10 -14", "10 -2", "10 0", "11 -14", "11 -24", "11 -23", "11 0", "12 -2", "12 -14", "12 more",
            "13 -22", "13 -14", "13 0", "13 more", "14 -22", "14 -14", "14 0", "14 more",
            "15 -22", "15 -9", "15 -14", "15 -11", "15 0", "15 more",
            "16 -22", "16 -9", "16 -14", "16 -28", "16 -32", "16 -11", "16 0", "16 more",
            "17 -14", "17 -2", "17 0", "other -38"};
        for (String result : all) {
            Due.is("call and result " + result + " met", reached.contains(result), true);
        }
    }
}
