/** Promises 1 to 13: the last arguments that a method takes, and the first for which it answers false, NONE or 0. */
public final class FaceEdgeTest implements Numbers {
    private static final int NONE = -1;

    public static void main(String[] args) {
        newObjects();
        mapTakes();
        mapInstead();
        mapRefuses();
        unmapTakes();
        unmapRefuses();
        pageAnswers();
        pageRefuses();
        pokeTakes();
        pokeRefuses();
        peekRefuses();
        setTakes();
        setRefuses();
        registerRefuses();
        trapRefuses();
        callRefuses();
        callKeepsRegisters();
        trapsAreAll();
        counts();
        countRefuses();
        descriptors();
        descriptorsRefuses();
        Due.end();
    }

    private static int bit(boolean answer) {
        return answer ? 1 : 0;
    }

    private static void newObjects() {
        Due.says("Memory and registers are 0, pages have no frames; there are no files, names, opens and pipes; no trap was made.");
        Scene.busy().dueTraps(10).dueCounts(2, 3, 5, 1);
        Scene s = new Scene().dueTraps(0).dueCounts(0, 0, 0, 0);
        for (int p = 0; p < 3; p++) {
            s.dueRegisters(p, 0, 0, 0).dueDescriptors(p, 0);
            for (int page = 0; page < 16; page++) {
                s.duePage(p, page, NONE);
            }
        }
        for (int i = 0; i < 320; i++) {
            s.dueByte(i / 16, i % 16, 0);
        }
        new Scene().refused(NOENT, 0, LIST, 0, 0).refused(BADF, 2, CLOSE, 0);
    }

    private static void mapTakes() {
        Due.says("Page page of process p gets a frame (instead of one that it has; the bytes in it stay) and flags (0 .. 7): true");
        TrapGate x = new TrapGate();
        for (int p = 0; p <= 2; p += 2) {
            for (int page = 0; page <= 15; page += 15) {
                for (int frame = 0; frame <= 19; frame += 19) {
                    for (int flags = 0; flags <= 7; flags++) {
                        Due.is("map", x.map(p, page, frame, flags), true);
                        Due.is("page", x.page(p, page), 8 * frame + flags);
                    }
                }
            }
        }
        Due.is("page(1, 0)", x.page(1, 0), NONE);
        Due.is("page(1, 15)", x.page(1, 15), NONE);
        Due.is("page(0, 1)", x.page(0, 1), NONE);
        Due.is("page(2, 14)", x.page(2, 14), NONE);
    }

    private static void mapInstead() {
        Due.says("(Several pages may have one frame.)");
        Scene s = new Scene().poke(3, 0, 33).poke(4, 15, 44).map(0, 0, 3, 7).map(0, 0, 4, 5).map(0, 1, 4, 6)
            .map(1, 0, 4, 0);
        s.duePage(0, 0, 37).duePage(0, 1, 38).duePage(1, 0, 32).dueByte(3, 0, 33).dueByte(4, 15, 44);
    }

    private static void mapRefuses() {
        Due.says("false, changing nothing, when p is not 0 .. 2, page not 0 .. 15, frame not 0 .. 19 or flags not 0 .. 7.");
        Scene s = Scene.busy();
        for (int p : Numbers.outside(2)) {
            s.idle(0, "map(" + p + ", 0, 9, 7)", g -> bit(g.map(p, 0, 9, 7)));
        }
        for (int page : Numbers.outside(15)) {
            s.idle(0, "map(1, " + page + ", 9, 7)", g -> bit(g.map(1, page, 9, 7)));
        }
        for (int frame : Numbers.outside(19)) {
            s.idle(0, "map(0, 0, " + frame + ", 7)", g -> bit(g.map(0, 0, frame, 7)));
        }
        for (int flags : Numbers.outside(7)) {
            s.idle(0, "map(0, 0, 9, " + flags + ")", g -> bit(g.map(0, 0, 9, flags)));
        }
        s.idle(0, "map(-1, 16, 9, 7)", g -> bit(g.map(-1, 16, 9, 7)));
        s.idle(0, "map(3, -1, 9, 7)", g -> bit(g.map(3, -1, 9, 7)));
    }

    private static void unmapTakes() {
        Due.says("Page page of process p has no frame then (the frame's bytes stay): true");
        TrapGate x = new TrapGate();
        for (int p = 0; p <= 2; p += 2) {
            for (int page = 0; page <= 15; page += 15) {
                x.map(p, page, 0, 0);
                x.poke(0, 0, 200);
                Due.is("unmap", x.unmap(p, page), true);
                Due.is("page", x.page(p, page), NONE);
                Due.is("peek", x.peek(0, 0), 200);
            }
        }
    }

    private static void unmapRefuses() {
        Due.says("false when it had none, or there is no such process or page.");
        Scene s = Scene.busy().map(2, 0, 0, 0);
        for (int p : Numbers.outside(2)) {
            s.idle(0, "unmap(" + p + ", 0)", g -> bit(g.unmap(p, 0)));
        }
        for (int page : Numbers.outside(15)) {
            s.idle(0, "unmap(1, " + page + ")", g -> bit(g.unmap(1, page)));
        }
        s.idle(0, "unmap(3, -1)", g -> bit(g.unmap(3, -1))).idle(0, "unmap(-1, 16)", g -> bit(g.unmap(-1, 16)));
        s.idle(0, "unmap(0, 4)", g -> bit(g.unmap(0, 4))).idle(0, "unmap(2, 14)", g -> bit(g.unmap(2, 14)));
        s.unmap(0, 0).idle(0, "unmap(0, 0) once more", g -> bit(g.unmap(0, 0)));
    }

    private static void pageAnswers() {
        Due.says("8 * frame + flags of a page of process p");
        Scene s = new Scene().map(0, 0, 0, 0).map(2, 15, 19, 7).map(1, 0, 0, 7).map(1, 15, 19, 0);
        s.duePage(0, 0, 0).duePage(2, 15, 159).duePage(1, 0, 7).duePage(1, 15, 152);
    }

    private static void pageRefuses() {
        Due.says("NONE when it has no frame, or there is no such process or page.");
        Scene s = Scene.busy().map(0, 15, 9, 7).map(2, 0, 9, 7);
        for (int p : Numbers.outside(2)) {
            s.idle(NONE, "page(" + p + ", 0)", g -> g.page(p, 0));
        }
        for (int page : Numbers.outside(15)) {
            s.idle(NONE, "page(1, " + page + ")", g -> g.page(1, page));
        }
        s.idle(NONE, "page(-1, 16)", g -> g.page(-1, 16)).idle(NONE, "page(3, -1)", g -> g.page(3, -1));
        s.idle(NONE, "page(0, 4)", g -> g.page(0, 4)).unmap(0, 0).idle(NONE, "page(0, 0)", g -> g.page(0, 0));
    }

    private static void pokeTakes() {
        Due.says("Byte i (0 .. 15) of a frame becomes b (whatever pages have it): true");
        TrapGate x = new TrapGate();
        x.map(0, 0, 19, 0);
        for (int frame = 0; frame <= 19; frame += 19) {
            for (int i = 0; i <= 15; i += 15) {
                for (int b : new int[] {255, 1, 0, 128}) {
                    Due.is("poke", x.poke(frame, i, b), true);
                    Due.is("peek", x.peek(frame, i), b);
                }
            }
        }
        Due.is("peek(0, 14)", x.peek(0, 14), 0);
        Due.is("peek(19, 1)", x.peek(19, 1), 0);
    }

    private static void pokeRefuses() {
        Due.says("false, changing nothing, when there is no such frame or byte, or b is not 0 .. 255.");
        Scene s = Scene.busy();
        for (int frame : Numbers.outside(19)) {
            s.idle(0, "poke(" + frame + ", 0, 9)", g -> bit(g.poke(frame, 0, 9)));
        }
        for (int i : Numbers.outside(15)) {
            s.idle(0, "poke(1, " + i + ", 9)", g -> bit(g.poke(1, i, 9)));
        }
        for (int b : Numbers.outside(255)) {
            s.idle(0, "poke(1, 0, " + b + ")", g -> bit(g.poke(1, 0, b)));
        }
        s.idle(0, "poke(-1, 16, 9)", g -> bit(g.poke(-1, 16, 9)))
            .idle(0, "poke(20, -1, 9)", g -> bit(g.poke(20, -1, 9)));
    }

    private static void peekRefuses() {
        Due.says("NONE when there is no such frame or byte.");
        Scene s = Scene.busy().poke(0, 15, 5).poke(19, 15, 6).dueByte(0, 15, 5).dueByte(19, 15, 6);
        for (int frame : Numbers.outside(19)) {
            s.idle(NONE, "peek(" + frame + ", 0)", g -> g.peek(frame, 0));
        }
        for (int i : Numbers.outside(15)) {
            s.idle(NONE, "peek(1, " + i + ")", g -> g.peek(1, i));
        }
        s.idle(NONE, "peek(-1, 16)", g -> g.peek(-1, 16)).idle(NONE, "peek(20, -1)", g -> g.peek(20, -1));
    }

    private static void setTakes() {
        Due.says("Register k (0 .. 2) of process p becomes v: true");
        TrapGate x = new TrapGate();
        for (int p = 0; p <= 2; p++) {
            for (int k = 0; k <= 2; k++) {
                for (int v : new int[] {MOST, LEAST, -1, 0, 3 * p + k + 1}) {
                    Due.is("set", x.set(p, k, v), true);
                    Due.is("register", x.register(p, k), v);
                }
            }
        }
        for (int i = 0; i < 9; i++) {
            Due.is("register", x.register(i / 3, i % 3), i + 1);
        }
    }

    private static void setRefuses() {
        Due.says("false when there is no such process or register.");
        Scene s = Scene.busy();
        for (int p : Numbers.outside(2)) {
            s.idle(0, "set(" + p + ", 0, 9)", g -> bit(g.set(p, 0, 9)));
        }
        for (int k : Numbers.outside(2)) {
            s.idle(0, "set(1, " + k + ", 9)", g -> bit(g.set(1, k, 9)));
        }
        s.idle(0, "set(-1, 3, 9)", g -> bit(g.set(-1, 3, 9))).idle(0, "set(3, -1, 9)", g -> bit(g.set(3, -1, 9)));
    }

    private static void registerRefuses() {
        Due.says("0 when there is no such process or register.");
        Scene s = Scene.busy();
        for (int p : Numbers.outside(2)) {
            s.idle(0, "register(" + p + ", 0)", g -> g.register(p, 0));
        }
        for (int k : Numbers.outside(2)) {
            s.idle(0, "register(1, " + k + ")", g -> g.register(1, k));
        }
        s.idle(0, "register(-1, 3)", g -> g.register(-1, 3)).idle(0, "register(3, -1)", g -> g.register(3, -1));
        s.set(0, 2, 8).set(1, 0, 8).idle(0, "register(0, 3)", g -> g.register(0, 3));
    }

    private static void trapRefuses() {
        Due.says("A TRAP of process p with a call number; answers its RESULT. NONE, changing nothing, when p is not 0 .. 2.");
        Scene s = Scene.busy();
        for (int p : Numbers.outside(2)) {
            s.idle(NONE, "trap(" + p + ", 0)", g -> g.trap(p, PID))
                .idle(NONE, "trap(" + p + ", 18)", g -> g.trap(p, 18));
            s.idle(NONE, "trap(" + p + ", 3)", g -> g.trap(p, CLOSE));
        }
    }

    private static void callRefuses() {
        Due.says("The same with registers A0, A1, A2 set to a, b, c before");
        Scene s = Scene.busy();
        for (int p : Numbers.outside(2)) {
            s.idle(NONE, "call(" + p + ", 3, 0, 8, 9)", g -> g.call(p, CLOSE, 0, 8, 9));
            s.idle(NONE, "call(" + p + ", 18, 7, 8, 9)", g -> g.call(p, 18, 7, 8, 9));
        }
    }

    private static void callKeepsRegisters() {
        Due.says("(A1 and A2 stay so, also with an ERROR)");
        Scene s = Scene.busy().due(2, 2, PID, 7, LEAST, MOST).dueRegisters(2, 2, LEAST, MOST);
        s.refused(BADF, 2, CLOSE, 0, -8, -9).refused(NOSYS, 1, 18, 6, 7, 8).refused(INVAL, 0, COPY, 0, MOST, LEAST);
        TrapGate x = new TrapGate();
        x.set(1, 1, 5);
        x.set(1, 2, 6);
        Due.is("trap(1, 3)", x.trap(1, CLOSE), BADF);
        Due.is("register(1, 0)", x.register(1, 0), BADF);
        Due.is("register(1, 1)", x.register(1, 1), 5);
        Due.is("register(1, 2)", x.register(1, 2), 6);
    }

    private static void trapsAreAll() {
        Due.says("How many traps were made.");
        TrapGate x = new TrapGate();
        for (int i = 0; i < 511; i++) {
            Due.is("TICKS", x.trap(i % 3, TICKS), i);
        }
        Due.is("traps()", x.traps(), 511);
        new Scene().dueTraps(0).due(0, 0, PID).dueTraps(1).due(1, 1, TICKS).dueTraps(2);
    }

    private static void counts() {
        Due.says("How many there are: of files for what 0, of names for 1, of opens for 2, of pipes for 3");
        Scene s = new Scene().room(0, 1).dueCounts(0, 0, 0, 0);
        for (int i = 0; i < 6; i++) {
            s.text(0, 0, "f" + i).due(0, 0, OPEN, 0, 7).due(0, 0, CLOSE, 0).dueCounts(i + 1, i + 1, 0, 0);
        }
        s.text(0, 8, "g").due(0, 0, LINK, 0, 8).dueCounts(6, 7, 0, 0);
        s.text(0, 8, "h").due(0, 0, LINK, 0, 8).dueCounts(6, 8, 0, 0);
        s.due(0, 0, PIPE, 32).dueCounts(6, 8, 2, 1).due(0, 0, PIPE, 32).dueCounts(6, 8, 4, 2);
        s.text(1, 0, "h");
        for (int d = 0; d < 4; d++) {
            s.due(d, 1, OPEN, 0, 1).dueCounts(6, 8, 5 + d, 2);
        }
    }

    private static void countRefuses() {
        Due.says("NONE for others.");
        Scene s = Scene.busy();
        for (int what : Numbers.outside(3)) {
            s.idle(NONE, "count(" + what + ")", g -> g.count(what));
        }
        s.idle(2, "count(0)", g -> g.count(0)).idle(3, "count(1)", g -> g.count(1));
        s.idle(5, "count(2)", g -> g.count(2)).idle(1, "count(3)", g -> g.count(3));
    }

    private static void descriptors() {
        Due.says("How many descriptors of process p are not closed");
        Scene s = new Scene().room(0, 2).text(0, 0, "f").text(2, 0, "f").due(0, 0, OPEN, 0, 7).due(0, 2, OPEN, 0, 7);
        for (int n = 1; n < 5; n++) {
            s.dueDescriptors(0, n).due(n, 0, DUP, 0);
        }
        s.dueDescriptors(0, 5).dueDescriptors(1, 0).dueDescriptors(2, 1).dueZero(CLOSE, 0, 1, 2, 3)
            .dueDescriptors(0, 1);
        s.dueZero(CLOSE, 4).dueDescriptors(0, 0).dueDescriptors(2, 1);
    }

    private static void descriptorsRefuses() {
        Due.says("NONE when there is no such process.");
        Scene s = Scene.busy();
        for (int p : Numbers.outside(2)) {
            s.idle(NONE, "descriptors(" + p + ")", g -> g.descriptors(p));
        }
        s.idle(3, "descriptors(0)", g -> g.descriptors(0)).idle(0, "descriptors(2)", g -> g.descriptors(2));
    }
}
