import java.util.ArrayList;
import java.util.Arrays;
import java.util.List;
import java.util.function.Consumer;
import java.util.function.ToIntFunction;

/**
 * A run of calls on a new object that can be made once more on another. A call that is to change nothing is made on
 * copies only; they are held against other copies that have not seen it, and must look alike.
 */
final class Scene implements Numbers {
    private final List<Consumer<CountedGate>> steps = new ArrayList<>();
    private final CountedGate gate = new CountedGate();
    private final int[][] frames = new int[3][16];

    /** Some of everything: files with several names and one, shared and other opens, a pipe with bytes in it. */
    static Scene busy() {
        Scene s = new Scene().room(0, 1).map(2, 15, 19, 5);
        s.text(0, 0, "a").text(0, 2, "bb").text(0, 16, "hello").text(1, 0, "c").text(1, 16, "world");
        s.due(0, 0, OPEN, 0, 7).due(5, 0, WRITE, 0, 16, 5).due(2, 0, SEEK, 0, 2).due(1, 0, DUP, 0);
        s.due(0, 0, LINK, 0, 2).due(2, 0, OPEN, 2, 1);
        s.due(0, 1, PIPE, 48).due(3, 1, WRITE, 1, 16, 3).due(2, 1, OPEN, 0, 6).due(4, 1, WRITE, 2, 16, 4);
        return s.set(0, 0, 70).set(0, 1, 71).set(1, 2, -72).set(2, 0, 73).set(2, 1, 74).set(2, 2, 75);
    }

    private Scene step(Consumer<CountedGate> step) {
        steps.add(step);
        step.accept(gate);
        return this;
    }

    private CountedGate copy() {
        CountedGate copy = new CountedGate();
        for (Consumer<CountedGate> step : steps) {
            step.accept(copy);
        }
        return copy;
    }

    Scene map(int p, int page, int frame, int flags) {
        frames[p][page] = frame;
        return step(g -> g.map(p, page, frame, flags));
    }

    Scene unmap(int p, int page) {
        return step(g -> g.unmap(p, page));
    }

    /** Pages 0 .. 3 of the processes get frames 4 * p .. 4 * p + 3 and all flags. */
    Scene room(int... processes) {
        for (int p : processes) {
            for (int page = 0; page < 4; page++) {
                map(p, page, 4 * p + page, 7);
            }
        }
        return this;
    }

    /** Pages 4 .. 15 of process 0, behind its room, get the frames of these numbers and all flags. */
    Scene moreRoom() {
        for (int page = 4; page < 16; page++) {
            map(0, page, page, 7);
        }
        return this;
    }

    Scene poke(int frame, int i, int b) {
        return step(g -> g.poke(frame, i, b));
    }

    Scene set(int p, int k, int v) {
        return step(g -> g.set(p, k, v));
    }

    /** Puts bytes to the frames behind the addresses of a process, whatever flags the pages have. */
    Scene bytes(int p, int address, int... bytes) {
        for (int i = 0; i < bytes.length; i++) {
            poke(frames[p][(address + i) / 16], (address + i) % 16, bytes[i]);
        }
        return this;
    }

    Scene text(int p, int address, String text) {
        return bytes(p, address, (text + "\0").chars().toArray());
    }

    /** A call that is no error; registers that are not told are 0. */
    Scene due(int want, int p, int number, int... registers) {
        int[] r = Arrays.copyOf(registers, 3);
        String call = name(p, number, r);
        Due.is(call, gate.call(p, number, r[0], r[1], r[2]), want);
        Due.is("A0 after " + call, gate.register(p, 0), want);
        steps.add(g -> g.call(p, number, r[0], r[1], r[2]));
        return this;
    }

    /** Several calls of process 0 that are no errors and answer 0. */
    Scene dueZero(int number, int... firstRegisters) {
        for (int a : firstRegisters) {
            due(0, 0, number, a);
        }
        return this;
    }

    Scene dueBytes(int p, int address, int... want) {
        for (int i = 0; i < want.length; i++) {
            dueByte(frames[p][(address + i) / 16], (address + i) % 16, want[i]);
        }
        return this;
    }

    Scene dueByte(int frame, int i, int want) {
        Due.is("peek(" + frame + ", " + i + ")", gate.peek(frame, i), want);
        return this;
    }

    Scene dueText(int p, int address, String want) {
        return dueBytes(p, address, want.chars().toArray());
    }

    Scene duePage(int p, int page, int want) {
        Due.is("page(" + p + ", " + page + ")", gate.page(p, page), want);
        return this;
    }

    Scene dueRegisters(int p, int... want) {
        for (int k = 0; k < 3; k++) {
            Due.is("register(" + p + ", " + k + ")", gate.register(p, k), want[k]);
        }
        return this;
    }

    Scene dueCounts(int files, int names, int opens, int pipes) {
        int[] want = {files, names, opens, pipes};
        for (int what = 0; what < 4; what++) {
            Due.is("count(" + what + ")", gate.count(what), want[what]);
        }
        return this;
    }

    Scene dueDescriptors(int p, int want) {
        Due.is("descriptors(" + p + ")", gate.descriptors(p), want);
        return this;
    }

    Scene dueTraps(int want) {
        Due.is("traps()", gate.traps(), want);
        return this;
    }

    /** STAT by process p of the string at an address, to place 60. */
    Scene dueStat(int p, int address, int length, int names, int opens) {
        return due(0, p, STAT, address, 60).dueBytes(p, 60, length, names, opens);
    }

    /** A call that is an error: nothing but A0, and the registers that call() sets, and the count of traps changes. */
    Scene refused(int error, int p, int number, int... registers) {
        int[] r = Arrays.copyOf(registers, 3);
        String call = name(p, number, r);
        Due.is(call, copy().call(p, number, r[0], r[1], r[2]), error);
        for (int look = 0; look < View.LOOKS; look++) {
            CountedGate asked = copy();
            CountedGate twin = copy();
            asked.call(p, number, r[0], r[1], r[2]);
            twin.set(p, 0, error);
            twin.set(p, 1, r[1]);
            twin.set(p, 2, r[2]);
            View.of(asked, look).dueLike("after " + call, View.of(twin, look), 1);
        }
        return this;
    }

    /** A method's call that answers so, and changes nothing at all. */
    Scene idle(int want, String call, ToIntFunction<CountedGate> method) {
        Due.is(call, method.applyAsInt(copy()), want);
        for (int look = 0; look < View.LOOKS; look++) {
            CountedGate asked = copy();
            method.applyAsInt(asked);
            View.of(asked, look).dueLike("after " + call, View.of(copy(), look), 0);
        }
        return this;
    }

    private static String name(int p, int number, int[] r) {
        return "call(" + p + ", " + number + ", " + r[0] + ", " + r[1] + ", " + r[2] + ")";
    }
}
