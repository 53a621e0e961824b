/** Promises 9 and 10: traps and their registers, and the calls about memory (numbers 0, 1, 13, 14 and unknown ones). */
public final class TrapTest {
    public static void main(String[] args) {
        trapUsesRegisters();
        callSetsRegisters();
        noSuchProcess();
        unknownNumbers();
        copy();
        copyOverlaps();
        copyIntoSharedFrame();
        copyErrors();
        flagsOfPages();
        protect();
        Due.end();
    }

    private static void trapUsesRegisters() {
        Machine m = new Machine().roomFor(1);
        TrapGate x = m.gate;
        x.poke(4, 0, 50);
        x.set(1, 0, 8);
        x.set(1, 1, 0);
        x.set(1, 2, 1);
        Due.is("trap(1, 13)", x.trap(1, 13), 1);
        Due.is("peek(4, 8)", x.peek(4, 8), 50);
        Due.is("register(1, 0)", x.register(1, 0), 1);
        Due.is("register(1, 1)", x.register(1, 1), 0);
        Due.is("register(1, 2)", x.register(1, 2), 1);
        Due.is("trap(1, 0)", x.trap(1, 0), 1);
        Due.is("trap(2, 0)", x.trap(2, 0), 2);
        Due.is("trap(1, 1)", x.trap(1, 1), 3);
        Due.is("register(1, 0)", x.register(1, 0), 3);
        x.set(1, 2, 65);
        Due.is("trap(1, 13)", x.trap(1, 13), -22);
        Due.is("register(1, 0)", x.register(1, 0), -22);
        Due.is("register(1, 2)", x.register(1, 2), 65);
    }

    private static void callSetsRegisters() {
        TrapGate x = new TrapGate();
        Due.is("call(2, 0, 7, 8, 9)", x.call(2, 0, 7, 8, 9), 2);
        Due.is("register(2, 0)", x.register(2, 0), 2);
        Due.is("register(2, 1)", x.register(2, 1), 8);
        Due.is("register(2, 2)", x.register(2, 2), 9);
        Due.is("call(2, 3, 5, -6, -7)", x.call(2, 3, 5, -6, -7), -9);
        Due.is("register(2, 0)", x.register(2, 0), -9);
        Due.is("register(2, 1)", x.register(2, 1), -6);
        Due.is("register(2, 2)", x.register(2, 2), -7);
        Due.is("register(1, 1)", x.register(1, 1), 0);
        Due.is("register(0, 0)", x.register(0, 0), 0);
    }

    private static void noSuchProcess() {
        TrapGate x = new TrapGate();
        for (int wrong : new int[] {Integer.MIN_VALUE, -1, 3, Integer.MAX_VALUE}) {
            Due.is("trap(" + wrong + ", 0)", x.trap(wrong, 0), -1);
            Due.is("call(" + wrong + ", 0, 1, 2, 3)", x.call(wrong, 0, 1, 2, 3), -1);
            Due.is("call(" + wrong + ", 99, 1, 2, 3)", x.call(wrong, 99, 1, 2, 3), -1);
        }
        Due.is("traps()", x.traps(), 0);
        for (int k = 0; k < 9; k++) {
            Due.is("register", x.register(k / 3, k % 3), 0);
        }
    }

    private static void unknownNumbers() {
        Machine m = new Machine();
        for (int number : new int[] {Integer.MIN_VALUE, -1, 18, 99, 256, Integer.MAX_VALUE}) {
            m.due(-38, 1, number, 1, 2, 3);
        }
        Due.is("traps()", m.gate.traps(), 6);
    }

    private static void copy() {
        Machine m = new Machine().roomFor(0).text(0, 12, "abcdefg");
        m.due(7, 0, Machine.COPY, 28, 12, 7).dueText(0, 27, "\0abcdefg\0");
        m.due(64, 0, Machine.COPY, 0, 0, 64);
        m.due(0, 0, Machine.COPY, 0, 0, 0);
        m.due(0, 0, Machine.COPY, -5, 999, 0);
        m.due(0, 0, Machine.COPY, Integer.MAX_VALUE, Integer.MIN_VALUE, 0);
    }

    private static void copyOverlaps() {
        Machine m = new Machine().roomFor(0).text(0, 0, "abcd");
        m.due(4, 0, Machine.COPY, 1, 0, 4).dueText(0, 0, "aabcd");
        m = new Machine().roomFor(0).text(0, 1, "abcd");
        m.due(4, 0, Machine.COPY, 0, 1, 4).dueText(0, 0, "abcdd");
    }

    private static void copyIntoSharedFrame() {
        Machine m = new Machine();
        m.gate.map(0, 0, 0, 7);
        m.gate.map(0, 1, 0, 7);
        m.gate.map(0, 2, 1, 7);
        m.gate.map(0, 3, 2, 7);
        for (int i = 0; i < 16; i++) {
            m.gate.poke(1, i, 10 + i);
            m.gate.poke(2, i, 30 + i);
        }
        m.due(32, 0, Machine.COPY, 0, 32, 32);
        Due.is("peek(0, 0): the later one stays", m.gate.peek(0, 0), 30);
        Due.is("peek(0, 15): the later one stays", m.gate.peek(0, 15), 45);
        m.due(20, 0, Machine.COPY, 0, 32, 20);
        Due.is("peek(0, 3)", m.gate.peek(0, 3), 33);
        Due.is("peek(0, 4)", m.gate.peek(0, 4), 14);
    }

    private static void copyErrors() {
        Machine m = new Machine().roomFor(0).text(0, 0, "xyz");
        int[] wrong = {Integer.MIN_VALUE, -1, 65, Integer.MAX_VALUE};
        for (int n : wrong) {
            m.due(Machine.INVAL, 0, Machine.COPY, 0, 0, n);
            m.due(Machine.INVAL, 0, Machine.COPY, -1, -1, n);
        }
        for (int address : new int[] {Integer.MIN_VALUE, -1, 63, 64, 254, 255, 256, Integer.MAX_VALUE}) {
            m.due(Machine.FAULT, 0, Machine.COPY, address, 0, 2);
            m.due(Machine.FAULT, 0, Machine.COPY, 0, address, 2);
        }
        m.due(Machine.FAULT, 0, Machine.COPY, 0, Integer.MAX_VALUE - 10, 64);
        m.dueText(0, 0, "xyz").dueBytes(0, 62, 0, 0);
        m.gate.map(0, 15, 19, 7);
        m.due(1, 0, Machine.COPY, 255, 0, 1);
        Due.is("peek(19, 15)", m.gate.peek(19, 15), 'x');
        m.due(Machine.FAULT, 0, Machine.COPY, 254, 0, 3);
        Due.is("peek(19, 14)", m.gate.peek(19, 14), 0);
    }

    /** Page 1 gets each sum of flags; a page without USER is neither readable nor writable. */
    private static void flagsOfPages() {
        for (int flags = 0; flags < 8; flags++) {
            Machine m = new Machine().roomFor(0);
            m.gate.map(0, 1, 1, flags);
            boolean isReadable = flags == 5 || flags == 7;
            boolean isWritable = flags == 6 || flags == 7;
            m.due(isReadable ? 3 : Machine.FAULT, 0, Machine.COPY, 32, 15, 3);
            m.due(isReadable ? 20 : Machine.FAULT, 0, Machine.COPY, 32, 15, 20);
            m.due(isReadable ? 1 : Machine.FAULT, 0, Machine.COPY, 32, 31, 1);
            m.due(isWritable ? 3 : Machine.FAULT, 0, Machine.COPY, 15, 40, 3);
            m.due(isWritable ? 20 : Machine.FAULT, 0, Machine.COPY, 15, 40, 20);
            m.due(isWritable ? 1 : Machine.FAULT, 0, Machine.COPY, 31, 40, 1);
            m.due(16, 0, Machine.COPY, 32, 0, 16);
            m.gate.map(1, 1, 1, 7);
            m.due(1, 1, Machine.COPY, 16, 17, 1);
            m.due(Machine.FAULT, 1, Machine.COPY, 0, 17, 1);
        }
    }

    private static void protect() {
        Machine m = new Machine();
        TrapGate x = m.gate;
        for (int flags = 0; flags < 8; flags++) {
            x.map(2, 8 + flags, 10 + flags, flags);
            for (int wanted = 0; wanted < 4; wanted++) {
                x.map(2, flags, 19, flags);
                m.due(flags < 4 ? Machine.FAULT : flags & 3, 2, Machine.PROTECT, flags, wanted, 0);
                Due.is("page after PROTECT", x.page(2, flags), 8 * 19 + (flags < 4 ? flags : 4 + wanted));
            }
        }
        Due.is("page(2, 15)", x.page(2, 15), 8 * 17 + 7);
        for (int wrong : new int[] {Integer.MIN_VALUE, -1, 16, Integer.MAX_VALUE}) {
            m.due(Machine.INVAL, 2, Machine.PROTECT, wrong, 0, 0);
        }
        for (int wrong : new int[] {Integer.MIN_VALUE, -1, 4, 7, Integer.MAX_VALUE}) {
            m.due(Machine.INVAL, 2, Machine.PROTECT, 0, wrong, 0);
            m.due(Machine.INVAL, 0, Machine.PROTECT, 0, wrong, 0);
        }
        m.due(Machine.FAULT, 0, Machine.PROTECT, 0, 3, 0);
        m.due(3, 2, Machine.PROTECT, 15, 1, 0);
        m.due(Machine.FAULT, 2, Machine.COPY, 240, 241, 1);
        m.due(1, 2, Machine.PROTECT, 15, 3, 0);
        m.due(1, 2, Machine.COPY, 240, 241, 1);
    }
}
