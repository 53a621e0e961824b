import java.util.ArrayList;
import java.util.List;

/** Terms, TRAP: the result, the registers, the count of traps, what an error leaves as it is; PID, TICKS and NOSYS. */
public final class TrapEdgeTest implements Numbers {
    public static void main(String[] args) {
        resultInFirstRegister();
        registersAsTheyAre();
        unknownNumbers();
        pid();
        ticks();
        eachErrorOfEachCall();
        errorsOfTheFull();
        errorsOfPipes();
        descriptorFirst();
        Due.end();
    }

    private static void resultInFirstRegister() {
        Due.says("the call is done with the registers as they are, and its RESULT is put into A0 of the process.");
        Scene s = Scene.busy().due(2, 2, PID, 9, 8, 7).dueRegisters(2, 2, 8, 7).dueRegisters(0, 70, 71, 0);
        s.due(5, 1, COPY, 32, 16, 5).dueRegisters(1, 5, 16, 5).dueRegisters(2, 2, 8, 7);
        s.refused(FAULT, 1, COPY, 32, 64, 5).refused(NOSYS, 2, 99, 1, 2, 3);
    }

    private static void registersAsTheyAre() {
        Due.says("the call is done with the registers as they are");
        TrapGate x = new TrapGate();
        x.map(1, 0, 0, 7);
        x.poke(0, 0, 50);
        x.set(1, 0, 3);
        x.set(1, 2, 2);
        Due.is("trap(1, 13)", x.trap(1, COPY), 2);
        Due.is("peek(0, 3)", x.peek(0, 3), 50);
        Due.is("trap(1, 13), A0 being 2 now", x.trap(1, COPY), 2);
        Due.is("peek(0, 2)", x.peek(0, 2), 50);
        Due.is("trap(1, 99)", x.trap(1, 99), NOSYS);
        Due.is("trap(1, 13), A0 being -38 now", x.trap(1, COPY), FAULT);
        Due.is("trap(0, 13)", x.trap(0, COPY), 0);
        Due.is("traps()", x.traps(), 5);
    }

    private static void unknownNumbers() {
        Due.says("NOSYS -38 (any number not named below).");
        Scene s = Scene.busy();
        for (int number : new int[] {LEAST, LEAST + 2, -18, -1, 18, 19, 32, 256, 258, 65536, MOST}) {
            s.refused(NOSYS, 0, number, 0, 0, 0).refused(NOSYS, 2, number, LEAST, MOST, -1);
        }
        s.due(0, 0, PID).due(0, 0, RENAME, 0, 0);
    }

    private static void pid() {
        Due.says("the process's number.");
        Scene s = Scene.busy();
        for (int p = 0; p < 3; p++) {
            s.due(p, p, PID, LEAST, MOST, -1).dueRegisters(p, p, MOST, -1);
        }
    }

    private static void ticks() {
        Due.says("how many traps there were before (of all processes, this one not).");
        Scene s = new Scene().due(0, 2, TICKS).due(1, 2, TICKS).due(2, 0, TICKS, LEAST, MOST, -1).due(0, 0, PID)
            .due(4, 1, TICKS);
        s.due(0, 1, COPY, 0, 0, 0).due(6, 1, TICKS).dueTraps(7);
        TrapGate x = new TrapGate();
        Due.is("trap(0, 99)", x.trap(0, 99), NOSYS);
        Due.is("call(0, 3, 9, 0, 0)", x.call(0, CLOSE, 9, 0, 0), BADF);
        Due.is("trap(3, 1)", x.trap(3, TICKS), -1);
        Due.is("call(-1, 1, 0, 0, 0)", x.call(-1, TICKS, 0, 0, 0), -1);
        Due.is("trap(1, 1)", x.trap(1, TICKS), 2);
    }

    private static void eachErrorOfEachCall() {
        Due.says("Results below 0 are ERRORS, and then nothing but A0 and the count of traps changes.");
        Scene s = Scene.busy().text(0, 6, "new").text(0, 10, "abcdefgh").bytes(0, 48, 32, 2, 64, 1);
        s.refused(INVAL, 0, OPEN, 0, 9).refused(FAULT, 0, OPEN, 10, 7).refused(NOENT, 0, OPEN, 6, 3)
            .refused(NOENT, 0, OPEN, 1, 15);
        s.refused(BADF, 0, CLOSE, 3).refused(INVAL, 0, READ, 0, 32, 65).refused(BADF, 1, READ, 1, 32, 1);
        s.refused(BADF, 1, READ, 2, 32, 1).refused(FAULT, 0, READ, 0, 63, 2).refused(FAULT, 1, READ, 0, 63, 2);
        s.refused(INVAL, 1, WRITE, 1, 32, 65).refused(BADF, 0, WRITE, 2, 32, 1).refused(BADF, 1, WRITE, 0, 32, 1);
        s.refused(FAULT, 1, WRITE, 1, 63, 2).refused(FAULT, 0, WRITE, 0, 63, 2);
        s.refused(BADF, 0, SEEK, 4, 0).refused(SPIPE, 1, SEEK, 0, 0).refused(INVAL, 0, SEEK, 0, 25)
            .refused(BADF, 0, DUP, 4);
        s.refused(FAULT, 0, UNLINK, 10).refused(NOENT, 0, UNLINK, 6).refused(FAULT, 0, LINK, 0, 10)
            .refused(NOENT, 0, LINK, 6, 0);
        s.refused(EXIST, 0, LINK, 0, 2).refused(FAULT, 0, STAT, 10, 32).refused(FAULT, 0, STAT, 0, 62)
            .refused(NOENT, 0, STAT, 6, 32);
        s.refused(FAULT, 0, PIPE, 63).refused(NOENT, 0, LIST, 3, 32).refused(FAULT, 0, LIST, 0, 63)
            .refused(FAULT, 0, LIST, 1, 62);
        s.refused(INVAL, 0, COPY, 0, 16, 65).refused(FAULT, 0, COPY, 63, 0, 2).refused(FAULT, 0, COPY, 0, 63, 2);
        s.refused(INVAL, 0, PROTECT, 0, 4).refused(FAULT, 0, PROTECT, 4, 0);
        s.refused(INVAL, 0, READV, 0, 48, 5).refused(BADF, 1, READV, 1, 48, 1).refused(FAULT, 0, READV, 0, 48, 2);
        s.refused(INVAL, 0, WRITEV, 0, 48, 5).refused(BADF, 0, WRITEV, 2, 48, 1).refused(FAULT, 0, WRITEV, 0, 48, 2);
        s.refused(FAULT, 0, RENAME, 0, 10).refused(NOENT, 0, RENAME, 6, 0).refused(NOENT, 0, RENAME, 0, 1);
    }

    private static void errorsOfTheFull() {
        Due.says("Results below 0 are ERRORS, and then nothing but A0 and the count of traps changes.");
        Scene s = Scene.busy().due(3, 0, DUP, 0).refused(MFILE, 0, PIPE, 32).due(4, 0, DUP, 2);
        s.refused(MFILE, 0, OPEN, 0, 11).refused(MFILE, 0, DUP, 0).refused(MFILE, 0, PIPE, 32);
        s = Scene.busy().due(3, 0, OPEN, 0, 3).due(4, 0, OPEN, 2, 2).refused(NFILE, 1, PIPE, 32);
        s.due(3, 1, OPEN, 0, 2).refused(NFILE, 1, OPEN, 0, 10).dueZero(CLOSE, 4, 1).refused(NFILE, 0, PIPE, 32);
        s = Scene.busy().due(0, 0, PIPE, 48).refused(NFILE, 1, PIPE, 32);
        s = Scene.busy();
        for (int i = 0; i < 5; i++) {
            s.bytes(0, 32, '0' + i, 0).due(0, 0, LINK, 0, 32);
        }
        s.text(0, 34, "new").refused(NOSPC, 0, LINK, 0, 34).refused(NOSPC, 0, OPEN, 34, 15);
        s = Scene.busy().due(24, 0, SEEK, 0, 24).refused(NOSPC, 0, WRITE, 0, 16, 1);
        s.bytes(0, 48, 16, 1).refused(NOSPC, 0, WRITEV, 0, 48, 1);
    }

    private static void errorsOfPipes() {
        Due.says("Results below 0 are ERRORS, and then nothing but A0 and the count of traps changes.");
        Scene s = Scene.busy().bytes(1, 50, 16, 9).due(5, 1, WRITE, 1, 16, 9).refused(AGAIN, 1, WRITE, 1, 16, 1);
        s.refused(AGAIN, 1, WRITEV, 1, 50, 1).due(8, 1, READ, 0, 32, 9);
        s.refused(AGAIN, 1, READ, 0, 40, 1).refused(AGAIN, 1, READV, 0, 50, 1);
        s = Scene.busy().bytes(1, 50, 16, 9).due(0, 1, CLOSE, 0).refused(BROKEN_PIPE, 1, WRITE, 1, 16, 1);
        s.refused(BROKEN_PIPE, 1, WRITEV, 1, 50, 1);
    }

    private static void descriptorFirst() {
        Due.says("\"Descriptor A0\" is BADF when A0 is not 0 .. 4 or that one is closed");
        Scene s = Scene.busy();
        for (int d : Numbers.outside(4)) {
            for (int[] call : callsOfDescriptor(d)) {
                s.refused(BADF, 0, call[0], call[1], call[2], call[3])
                    .refused(BADF, 1, call[0], call[1], call[2], call[3]);
            }
        }
        for (int d = 0; d < 5; d++) {
            for (int[] call : callsOfDescriptor(d)) {
                s.refused(BADF, 2, call[0], call[1], call[2], call[3]);
            }
        }
        for (int[] call : callsOfDescriptor(4)) {
            s.refused(BADF, 0, call[0], call[1], call[2], call[3]);
        }
        s.due(3, 0, DUP, 0).due(4, 0, DUP, 0).due(1, 0, READ, 4, 32, 1).due(0, 0, CLOSE, 4).due(0, 0, CLOSE, 0)
            .refused(BADF, 0, CLOSE, 0);
    }

    private static List<int[]> callsOfDescriptor(int d) {
        List<int[]> calls = new ArrayList<>();
        calls.add(new int[] {CLOSE, d, 0, 0});
        calls.add(new int[] {DUP, d, 0, 0});
        calls.add(new int[] {SEEK, d, 0, 0});
        calls.add(new int[] {READ, d, 32, 1});
        calls.add(new int[] {READ, d, 32, 0});
        calls.add(new int[] {WRITE, d, 32, 1});
        calls.add(new int[] {WRITE, d, 32, 0});
        calls.add(new int[] {READV, d, 32, 1});
        calls.add(new int[] {READV, d, 32, 0});
        calls.add(new int[] {WRITEV, d, 32, 1});
        calls.add(new int[] {WRITEV, d, 32, 0});
        return calls;
    }
}
