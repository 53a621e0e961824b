/** Promises 1 to 8 and 11 to 13: what can be set and seen without a trap. */
public final class StateTest {
    private static final int[] WRONG = {Integer.MIN_VALUE, -1, Integer.MAX_VALUE};

    public static void main(String[] args) {
        newObject();
        mapAndPage();
        mapRefuses();
        unmap();
        pokeAndPeek();
        framesAreShared();
        registers();
        trapsAreCounted();
        counts();
        descriptors();
        Due.end();
    }

    private static void newObject() {
        TrapGate x = new TrapGate();
        for (int frame = 0; frame < 20; frame++) {
            for (int i = 0; i < 16; i++) {
                Due.is("peek of a new object", x.peek(frame, i), 0);
            }
        }
        for (int p = 0; p < 3; p++) {
            for (int page = 0; page < 16; page++) {
                Due.is("page of a new object", x.page(p, page), -1);
            }
            for (int k = 0; k < 3; k++) {
                Due.is("register of a new object", x.register(p, k), 0);
            }
            Due.is("descriptors of a new object", x.descriptors(p), 0);
        }
        for (int what = 0; what < 4; what++) {
            Due.is("count of a new object", x.count(what), 0);
        }
        Due.is("traps of a new object", x.traps(), 0);
    }

    private static void mapAndPage() {
        TrapGate x = new TrapGate();
        for (int p = 0; p < 3; p++) {
            for (int page = 0; page < 16; page++) {
                Due.is("map", x.map(p, page, page + p, (page + p) % 8), true);
            }
        }
        for (int p = 0; p < 3; p++) {
            for (int page = 0; page < 16; page++) {
                Due.is("page", x.page(p, page), 8 * (page + p) + (page + p) % 8);
            }
        }
        Due.is("map(2, 15, 19, 7)", x.map(2, 15, 19, 7), true);
        Due.is("page(2, 15)", x.page(2, 15), 159);
        Due.is("map(2, 15, 0, 0)", x.map(2, 15, 0, 0), true);
        Due.is("page(2, 15)", x.page(2, 15), 0);
        for (int wrong : new int[] {Integer.MIN_VALUE, -1, 3, Integer.MAX_VALUE}) {
            Due.is("page(" + wrong + ", 0)", x.page(wrong, 0), -1);
        }
        for (int wrong : new int[] {Integer.MIN_VALUE, -1, 16, Integer.MAX_VALUE}) {
            Due.is("page(0, " + wrong + ")", x.page(0, wrong), -1);
            Due.is("page(1, " + wrong + ")", x.page(1, wrong), -1);
        }
    }

    private static void mapRefuses() {
        TrapGate x = new TrapGate();
        x.map(0, 0, 5, 3);
        x.map(1, 0, 6, 3);
        for (int wrong : WRONG) {
            Due.is("map of process " + wrong, x.map(wrong, 0, 1, 1), false);
            Due.is("map of page " + wrong, x.map(1, wrong, 1, 1), false);
            Due.is("map to frame " + wrong, x.map(0, 0, wrong, 1), false);
            Due.is("map with flags " + wrong, x.map(0, 0, 1, wrong), false);
        }
        Due.is("map(3, 0, 1, 1)", x.map(3, 0, 1, 1), false);
        Due.is("map(0, 16, 1, 1)", x.map(0, 16, 1, 1), false);
        Due.is("map(0, 0, 20, 1)", x.map(0, 0, 20, 1), false);
        Due.is("map(0, 0, 1, 8)", x.map(0, 0, 1, 8), false);
        Due.is("page(0, 0)", x.page(0, 0), 43);
        Due.is("page(1, 0)", x.page(1, 0), 51);
        Due.is("page(0, 15)", x.page(0, 15), -1);
    }

    private static void unmap() {
        TrapGate x = new TrapGate();
        x.map(1, 15, 19, 7);
        x.map(1, 14, 19, 0);
        x.poke(19, 3, 77);
        Due.is("unmap(0, 15)", x.unmap(0, 15), false);
        Due.is("unmap(1, 15)", x.unmap(1, 15), true);
        Due.is("page(1, 15)", x.page(1, 15), -1);
        Due.is("page(1, 14)", x.page(1, 14), 152);
        Due.is("peek(19, 3)", x.peek(19, 3), 77);
        Due.is("unmap(1, 15)", x.unmap(1, 15), false);
        Due.is("unmap(1, 14)", x.unmap(1, 14), true);
        x.map(2, 0, 0, 0);
        x.map(1, 0, 0, 0);
        for (int wrong : WRONG) {
            Due.is("unmap(" + wrong + ", 0)", x.unmap(wrong, 0), false);
            Due.is("unmap(1, " + wrong + ")", x.unmap(1, wrong), false);
        }
        Due.is("unmap(3, 0)", x.unmap(3, 0), false);
        Due.is("unmap(1, 16)", x.unmap(1, 16), false);
        Due.is("page(1, 0)", x.page(1, 0), 0);
        Due.is("page(2, 0)", x.page(2, 0), 0);
        Due.is("unmap(2, 0)", x.unmap(2, 0), true);
    }

    private static void pokeAndPeek() {
        TrapGate x = new TrapGate();
        for (int frame = 0; frame < 20; frame += 19) {
            for (int i = 0; i < 16; i += 15) {
                Due.is("poke", x.poke(frame, i, 255), true);
                Due.is("peek", x.peek(frame, i), 255);
                for (int wrong : new int[] {Integer.MIN_VALUE, -1, 256, Integer.MAX_VALUE}) {
                    Due.is("poke of " + wrong, x.poke(frame, i, wrong), false);
                }
                Due.is("peek", x.peek(frame, i), 255);
                Due.is("poke", x.poke(frame, i, 0), true);
                Due.is("peek", x.peek(frame, i), 0);
                Due.is("poke", x.poke(frame, i, 9), true);
            }
        }
        for (int wrong : new int[] {Integer.MIN_VALUE, -1, 20, Integer.MAX_VALUE}) {
            Due.is("poke(" + wrong + ", 0, 1)", x.poke(wrong, 0, 1), false);
            Due.is("peek(" + wrong + ", 0)", x.peek(wrong, 0), -1);
        }
        for (int wrong : new int[] {Integer.MIN_VALUE, -1, 16, Integer.MAX_VALUE}) {
            Due.is("poke(1, " + wrong + ", 1)", x.poke(1, wrong, 1), false);
            Due.is("peek(1, " + wrong + ")", x.peek(1, wrong), -1);
        }
        Due.is("peek(0, 15)", x.peek(0, 15), 9);
        Due.is("peek(2, 0)", x.peek(2, 0), 0);
    }

    private static void framesAreShared() {
        TrapGate x = new TrapGate();
        x.poke(7, 0, 65);
        x.map(0, 0, 7, 7);
        x.map(1, 3, 7, 7);
        Due.is("peek(7, 0) after map", x.peek(7, 0), 65);
        Due.is("call(0, 13, 1, 0, 1)", x.call(0, 13, 1, 0, 1), 1);
        Due.is("call(1, 13, 50, 49, 1)", x.call(1, 13, 50, 49, 1), 1);
        Due.is("peek(7, 2)", x.peek(7, 2), 65);
        x.map(0, 0, 8, 7);
        Due.is("call(0, 13, 5, 0, 1)", x.call(0, 13, 5, 0, 1), 1);
        Due.is("peek(7, 0) after another map", x.peek(7, 0), 65);
        Due.is("peek(7, 5)", x.peek(7, 5), 0);
        Due.is("peek(8, 5)", x.peek(8, 5), 0);
    }

    private static void registers() {
        TrapGate x = new TrapGate();
        for (int p = 0; p < 3; p++) {
            for (int k = 0; k < 3; k++) {
                Due.is("set", x.set(p, k, Integer.MIN_VALUE + 3 * p + k), true);
            }
        }
        for (int wrong : WRONG) {
            Due.is("set(" + wrong + ", 0, 1)", x.set(wrong, 0, 1), false);
            Due.is("set(1, " + wrong + ", 1)", x.set(1, wrong, 1), false);
            Due.is("register(" + wrong + ", 0)", x.register(wrong, 0), 0);
            Due.is("register(1, " + wrong + ")", x.register(1, wrong), 0);
        }
        Due.is("set(3, 0, 1)", x.set(3, 0, 1), false);
        Due.is("set(1, 3, 1)", x.set(1, 3, 1), false);
        Due.is("register(3, 0)", x.register(3, 0), 0);
        Due.is("register(1, 3)", x.register(1, 3), 0);
        for (int p = 0; p < 3; p++) {
            for (int k = 0; k < 3; k++) {
                Due.is("register", x.register(p, k), Integer.MIN_VALUE + 3 * p + k);
            }
        }
    }

    private static void trapsAreCounted() {
        TrapGate x = new TrapGate();
        x.trap(0, 0);
        x.trap(1, 99);
        x.call(2, 3, 9, 0, 0);
        Due.is("traps()", x.traps(), 3);
        x.trap(3, 0);
        x.trap(-1, 0);
        x.call(3, 0, 0, 0, 0);
        x.call(-1, 0, 0, 0, 0);
        x.map(0, 0, 0, 7);
        x.set(0, 0, 1);
        Due.is("traps()", x.traps(), 3);
        Due.is("trap(1, 1)", x.trap(1, 1), 3);
        Due.is("traps()", x.traps(), 4);
    }

    private static void counts() {
        Machine m = new Machine().roomFor(0).text(0, 0, "a").text(0, 2, "b");
        m.dueCounts(0, 0, 0, 0);
        m.due(0, 0, Machine.OPEN, 0, 7, 0).dueCounts(1, 1, 1, 0);
        m.due(0, 0, Machine.LINK, 0, 2, 0).dueCounts(1, 2, 1, 0);
        m.due(1, 0, Machine.OPEN, 2, 1, 0).dueCounts(1, 2, 2, 0);
        m.due(2, 0, Machine.DUP, 0, 0, 0).dueCounts(1, 2, 2, 0);
        m.due(0, 0, Machine.PIPE, 32, 0, 0).dueCounts(1, 2, 4, 1);
        m.due(0, 0, Machine.CLOSE, 0, 0, 0).dueCounts(1, 2, 4, 1);
        m.due(0, 0, Machine.CLOSE, 2, 0, 0).dueCounts(1, 2, 3, 1);
        m.due(0, 0, Machine.CLOSE, 1, 0, 0).dueCounts(1, 2, 2, 1);
        m.due(0, 0, Machine.UNLINK, 0, 0, 0).dueCounts(1, 1, 2, 1);
        m.due(0, 0, Machine.UNLINK, 2, 0, 0).dueCounts(0, 0, 2, 1);
        m.due(0, 0, Machine.CLOSE, 3, 0, 0).dueCounts(0, 0, 1, 1);
        m.due(0, 0, Machine.CLOSE, 4, 0, 0).dueCounts(0, 0, 0, 0);
        for (int wrong : WRONG) {
            Due.is("count(" + wrong + ")", m.gate.count(wrong), -1);
        }
        Due.is("count(4)", m.gate.count(4), -1);
    }

    private static void descriptors() {
        Machine m = new Machine().roomFor(0).roomFor(1).text(0, 0, "a").text(1, 0, "a");
        for (int d = 0; d < 5; d++) {
            m.due(d, 1, Machine.OPEN, 0, 7, 0);
            Due.is("descriptors(1)", m.gate.descriptors(1), d + 1);
        }
        m.due(0, 0, Machine.OPEN, 0, 7, 0).due(1, 0, Machine.DUP, 0, 0, 0);
        Due.is("descriptors(0)", m.gate.descriptors(0), 2);
        Due.is("descriptors(1)", m.gate.descriptors(1), 5);
        Due.is("descriptors(2)", m.gate.descriptors(2), 0);
        m.due(0, 1, Machine.CLOSE, 2, 0, 0);
        Due.is("descriptors(1)", m.gate.descriptors(1), 4);
        for (int wrong : WRONG) {
            Due.is("descriptors(" + wrong + ")", m.gate.descriptors(wrong), -1);
        }
        Due.is("descriptors(3)", m.gate.descriptors(3), -1);
    }
}
