import java.util.ArrayList;
import java.util.List;

/**
 * What can be seen of an object. There are several looks, each to be taken at an object of its own: the later ones use
 * up files, names and pipes to see what is in them, and all of them at one object would be more than 512 calls.
 */
final class View implements Numbers {
    static final int LOOKS = 8;

    private static final int ROOM = 224;
    private static final int MARK = 255;

    private final CountedGate gate;
    private final List<String> labels = new ArrayList<>();
    private final List<Integer> answers = new ArrayList<>();

    private View(CountedGate gate) {
        this.gate = gate;
    }

    static View of(CountedGate gate, int look) {
        View view = new View(gate);
        switch (look) {
            case 0: view.seeFrames(0); break;
            case 1: view.seeFrames(10); break;
            case 2: view.seeTables(); break;
            case 3: view.seeNames(); break;
            case 4: view.seeContents(); break;
            default: view.seeOpens(look - 5); break;
        }
        return view;
    }

    /** Holds this against what is due, which has seen fewer traps. */
    void dueLike(String when, View due, int fewerTraps) {
        Due.is("answers seen " + when, answers.size(), due.answers.size());
        for (int i = 0; i < Math.min(answers.size(), due.answers.size()); i++) {
            int more = labels.get(i).equals("traps()") ? fewerTraps : 0;
            Due.is(labels.get(i) + " " + when, answers.get(i), due.answers.get(i) + more);
        }
    }

    private int see(String label, int answer) {
        labels.add(label);
        answers.add(answer);
        return answer;
    }

    private int seeCall(int p, int number, int a, int b, int c) {
        return see("call(" + p + ", " + number + ", " + a + ", " + b + ", " + c + ")", gate.call(p, number, a, b, c));
    }

    private void seeFrames(int from) {
        for (int frame = from; frame < from + 10; frame++) {
            for (int i = 0; i < 16; i++) {
                see("peek(" + frame + ", " + i + ")", gate.peek(frame, i));
            }
        }
    }

    private void seeTables() {
        for (int p = 0; p < 3; p++) {
            for (int page = 0; page < 16; page++) {
                see("page(" + p + ", " + page + ")", gate.page(p, page));
            }
            for (int k = 0; k < 3; k++) {
                see("register(" + p + ", " + k + ")", gate.register(p, k));
            }
            see("descriptors(" + p + ")", gate.descriptors(p));
        }
        seeCounts();
        see("traps()", gate.traps());
    }

    private void seeCounts() {
        for (int what = 0; what < 4; what++) {
            see("count(" + what + ")", gate.count(what));
        }
    }

    private void makeRoom(int p) {
        gate.map(p, 14, 18, 7);
        gate.map(p, 15, 19, 7);
    }

    private void seeBytes(int n) {
        for (int i = 0; i < n; i++) {
            see("byte " + i, gate.peek(18 + i / 16, i % 16));
        }
    }

    private void seeNames() {
        makeRoom(0);
        for (int i = 0; i < 9; i++) {
            int length = seeCall(0, LIST, i, ROOM, 0);
            seeBytes(length);
            if (length > 0 && seeCall(0, STAT, ROOM, ROOM, 0) == 0) {
                seeBytes(3);
            }
        }
    }

    /** A byte written by each open tells its position; then all are closed, and each name's file is read. */
    private void seeContents() {
        for (int p = 0; p < 3; p++) {
            makeRoom(p);
            gate.poke(19, 15, 238);
            for (int d = 0; d < 5; d++) {
                seeCall(p, WRITE, d, MARK, 1);
            }
        }
        for (int i = 0; i < 15; i++) {
            seeCall(i / 5, CLOSE, i % 5, 0, 0);
        }
        for (int i = 0; i < 8; i++) {
            if (seeCall(0, LIST, i, ROOM, 0) > 0 && seeCall(0, OPEN, ROOM, 1, 0) == 0) {
                seeBytes(seeCall(0, READ, 0, ROOM, 32));
                gate.call(0, CLOSE, 0, 0, 0);
            }
        }
    }

    private void seeOpens(int p) {
        makeRoom(p);
        for (int d = 0; d < 5; d++) {
            seeBytes(seeCall(p, READ, d, ROOM, 30));
            gate.poke(19, 15, 238);
            seeCall(p, WRITE, d, MARK, 1);
            if (seeCall(p, SEEK, d, 0, 0) == 0) {
                seeBytes(seeCall(p, READ, d, ROOM, 30));
            }
        }
        for (int d = 0; d < 5; d++) {
            seeCall(p, CLOSE, d, 0, 0);
            seeCounts();
        }
    }
}
