/** A TrapGate with the few steps that most tests take on it. */
final class Machine implements Numbers {
    final TrapGate gate = new TrapGate();

    /** Pages 0 .. 3 of process p get frames 4 * p .. 4 * p + 3 and all flags. */
    Machine roomFor(int p) {
        for (int page = 0; page < 4; page++) {
            gate.map(p, page, 4 * p + page, 7);
        }
        return this;
    }

    /** Puts a text and a 0 at an address below 64 of a process that has room. */
    Machine text(int p, int address, String text) {
        return bytes(p, address, (text + "\0").chars().toArray());
    }

    Machine bytes(int p, int address, int... bytes) {
        for (int i = 0; i < bytes.length; i++) {
            int a = address + i;
            gate.poke(4 * p + a / 16, a % 16, bytes[i]);
        }
        return this;
    }

    Machine due(int want, int p, int number, int a, int b, int c) {
        String call = "call(" + p + ", " + number + ", " + a + ", " + b + ", " + c + ")";
        Due.is(call, gate.call(p, number, a, b, c), want);
        Due.is("register(" + p + ", 0) after " + call, gate.register(p, 0), want);
        return this;
    }

    /** The bytes at an address below 64 of a process that has room. */
    Machine dueBytes(int p, int address, int... want) {
        for (int i = 0; i < want.length; i++) {
            int a = address + i;
            Due.is("byte " + a + " of process " + p, gate.peek(4 * p + a / 16, a % 16), want[i]);
        }
        return this;
    }

    Machine dueText(int p, int address, String want) {
        return dueBytes(p, address, want.chars().toArray());
    }

    Machine dueCounts(int files, int names, int opens, int pipes) {
        Due.is("count(0)", gate.count(0), files);
        Due.is("count(1)", gate.count(1), names);
        Due.is("count(2)", gate.count(2), opens);
        Due.is("count(3)", gate.count(3), pipes);
        return this;
    }
}
