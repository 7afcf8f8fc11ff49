/** The edges of promises 1 to 9: the new object and its net. */
public final class NetEdgeTest {
    private static final int BEYOND = Edges.BEYOND;
    private static final int MISSING = Edges.MISSING;
    private static final int SIZE = Edges.SIZE;
    private static final int KIND = Edges.KIND;
    private static final int FULL = Edges.FULL;
    private static final int NONE = Edges.NONE;
    private static final int LEAST = Edges.LEAST;
    private static final int MOST = Edges.MOST;
    private static final Edges.Part NET = Edges.Part.NET;
    private static final Edges.Part UNDO = Edges.Part.UNDO;

    private static final Edges EDGES = new Edges();

    private static void due(String call, long want, long got) {
        EDGES.due(call, want, got);
    }

    private static void dueComparer(LaneNets x, int i, int kind, int a, int b, int on) {
        due("of(" + i + ", 0)", kind, x.of(i, 0));
        due("of(" + i + ", 1)", a, x.of(i, 1));
        due("of(" + i + ", 2)", b, x.of(i, 2));
        due("of(" + i + ", 4)", on, x.of(i, 4));
    }

    public static void main(String[] args) {
        newObject();
        newObjectsAreApart();
        lanesTaken();
        lanesRefused();
        comparerTaken();
        comparerBeyond();
        comparerSize();
        comparerFull();
        cutTaken();
        cutRefused();
        changeTaken();
        changeOfGates();
        changeRefused();
        switchTurned();
        switchRefused();
        asTaken();
        asRefused();
        ofRounds();
        ofSwitch();
        ofRefused();
        rounds();
        EDGES.end();
    }

    private static void newObject() {
        EDGES.sentence(1, "2 lanes, no comparers; all crates MISSING, no nets kept");
        EDGES.asked(Scenes::fresh, "told(0)", x -> x.told(0), 2);
        EDGES.asked(Scenes::fresh, "told(1)", x -> x.told(1), 0);
        EDGES.asked(Scenes::fresh, "told(2)", x -> x.told(2), 0);
        EDGES.asked(Scenes::fresh, "told(3)", x -> x.told(3), 0);
        EDGES.asked(Scenes::fresh, "out(3)", x -> x.out(3), 3);
        EDGES.refused(Scenes::fresh, "out(4)", x -> x.out(4), BEYOND);
        EDGES.refused(Scenes::fresh, "of(0, 0)", x -> x.of(0, 0), BEYOND);
        EDGES.refused(Scenes::fresh, "undo()", x -> x.undo(), NONE);
        for (int c = 0; c < 6; c++) {
            int crate = c;
            EDGES.refused(Scenes::fresh, "rises(" + c + ")", x -> x.rises(crate), MISSING);
        }
        for (int s = 0; s < 4; s++) {
            int slot = s;
            EDGES.refused(Scenes::fresh, "bring(" + s + ")", x -> x.bring(slot), NONE);
        }
    }

    private static void newObjectsAreApart() {
        EDGES.sentence(1, "a new object beside one that is full");
        LaneNets old = Edges.made(Scenes::full);
        old.lanes(9);
        LaneNets x = new LaneNets();
        due("told(0)", 2, x.told(0));
        due("told(1)", 0, x.told(1));
        due("told(2)", 0, x.told(2));
        due("told(3)", 0, x.told(3));
        due("rises(0)", MISSING, x.rises(0));
        due("bring(0)", NONE, x.bring(0));
        due("undo()", NONE, x.undo());
        due("the other's told(1)", 40, old.told(1));
        due("the other's told(3)", 1, old.told(3));
    }

    private static void lanesTaken() {
        EDGES.sentence(2, "a net of n lanes without comparers: how many comparers the net before had");
        for (int n = 2; n <= 8; n++) {
            int lanes = n;
            EDGES.done(Scenes::fresh, "lanes(" + n + ")", x -> x.lanes(lanes), 0, NET, UNDO);
            EDGES.done(Scenes::rich, "lanes(" + n + ")", x -> x.lanes(lanes), 6, NET, UNDO);
            EDGES.done(Scenes::full, "lanes(" + n + ")", x -> x.lanes(lanes), 40, NET, UNDO);
            LaneNets x = Edges.made(Scenes::full);
            x.lanes(n);
            due("told(0)", n, x.told(0));
            due("told(1)", 0, x.told(1));
            due("of(0, 0)", BEYOND, x.of(0, 0));
            due("out(1)", 1, x.out(1));
            due("lanes(n) once more", 0, x.lanes(n));
        }
    }

    private static void lanesRefused() {
        EDGES.sentence(2, "BEYOND: n is not 2 to 8");
        EDGES.refusedEach(Scenes::fresh, "lanes(?)", (x, v) -> x.lanes(v), BEYOND, 1, 0, -1, LEAST, 9, 10, MOST);
        EDGES.refusedEach(Scenes::rich, "lanes(?)", (x, v) -> x.lanes(v), BEYOND, 1, 0, -2, LEAST, 9, 10, MOST);
        EDGES.refusedEach(Scenes::full, "lanes(?)", (x, v) -> x.lanes(v), BEYOND, 1, 0, -8, LEAST, 9, 10, MOST);
    }

    private static void comparerTaken() {
        EDGES.sentence(3, "a comparer of a kind on two lanes comes behind the others: how many there are");
        for (int n = 2; n <= 8; n++) {
            Edges.Scene scene = Scenes.netOf(n);
            int last = n - 1;
            EDGES.done(scene, "the lowest lanes", x -> x.comparer(0, 0, 1), 1, NET, UNDO);
            EDGES.done(scene, "the highest lanes", x -> x.comparer(0, last - 1, last), 1, NET, UNDO);
            EDGES.done(scene, "the outermost lanes", x -> x.comparer(0, 0, last), 1, NET, UNDO);
        }
        for (int k = 0; k < 5; k++) {
            int kind = k;
            EDGES.done(Scenes::rich, "comparer(" + k + ", 0, 3)", x -> x.comparer(kind, 0, 3), 7, NET, UNDO);
            LaneNets x = Edges.made(Scenes::rich);
            x.comparer(kind, 0, 3);
            dueComparer(x, 5, 4, 0, 3, 0);
            dueComparer(x, 6, kind, 0, 3, kind == 4 ? 1 : 0);
        }
    }

    private static void comparerBeyond() {
        EDGES.sentence(3, "BEYOND: kind is not 0 to 4, a or b is no lane");
        EDGES.refusedEach(Scenes::rich, "comparer(?, 0, 1)", (x, v) -> x.comparer(v, 0, 1), BEYOND,
            -1, LEAST, 5, 6, MOST);
        for (int lanes = 2; lanes <= 8; lanes++) {
            int n = lanes;
            Edges.Scene scene = Scenes.netOf(n, 0, 0, 1);
            EDGES.refusedEach(scene, "comparer(0, ?, " + (n - 1) + ")", (x, v) -> x.comparer(0, v, n - 1), BEYOND,
                -1, LEAST, n, MOST);
            EDGES.refusedEach(scene, "comparer(0, 0, ?)", (x, v) -> x.comparer(0, 0, v), BEYOND, -1, LEAST, n, MOST);
        }
        EDGES.refused(Scenes::rich, "both lanes", x -> x.comparer(0, -2, -1), BEYOND);
        EDGES.refused(Scenes::rich, "both lanes", x -> x.comparer(0, 4, 5), BEYOND);
        EDGES.sentence(3, "BEYOND ahead of SIZE and FULL");
        EDGES.refused(Scenes::rich, "kind and a = b", x -> x.comparer(5, 1, 1), BEYOND);
        EDGES.refused(Scenes::rich, "kind and a above b", x -> x.comparer(-1, 2, 1), BEYOND);
        EDGES.refused(Scenes::rich, "a no lane and above b", x -> x.comparer(0, 4, 0), BEYOND);
        EDGES.refused(Scenes::rich, "b no lane and below a", x -> x.comparer(0, 0, -1), BEYOND);
        EDGES.refused(Scenes::rich, "no lanes, alike", x -> x.comparer(0, 4, 4), BEYOND);
        EDGES.refused(Scenes::full, "kind, of 40", x -> x.comparer(5, 0, 1), BEYOND);
        EDGES.refused(Scenes::full, "a, of 40", x -> x.comparer(0, -1, 1), BEYOND);
        EDGES.refused(Scenes::full, "b, of 40", x -> x.comparer(0, 0, 8), BEYOND);
        EDGES.refused(Scenes::full, "a = b no lane, of 40", x -> x.comparer(0, 8, 8), BEYOND);
    }

    private static void comparerSize() {
        EDGES.sentence(3, "SIZE: a is not below b");
        for (int n = 2; n <= 8; n++) {
            Edges.Scene scene = Scenes.netOf(n, 0, 0, 1);
            int last = n - 1;
            EDGES.refused(scene, "comparer(0, 0, 0)", x -> x.comparer(0, 0, 0), SIZE);
            EDGES.refused(scene, "both on the last lane", x -> x.comparer(0, last, last), SIZE);
            EDGES.refused(scene, "comparer(0, 1, 0)", x -> x.comparer(0, 1, 0), SIZE);
            EDGES.refused(scene, "the last and the first", x -> x.comparer(0, last, 0), SIZE);
        }
        for (int k = 0; k < 5; k++) {
            int kind = k;
            EDGES.refused(Scenes::rich, "comparer(" + k + ", 2, 1)", x -> x.comparer(kind, 2, 1), SIZE);
        }
        EDGES.sentence(3, "SIZE ahead of FULL");
        EDGES.refused(Scenes::full, "a = b, of 40", x -> x.comparer(0, 3, 3), SIZE);
        EDGES.refused(Scenes::full, "a above b, of 40", x -> x.comparer(0, 7, 0), SIZE);
    }

    private static void comparerFull() {
        EDGES.sentence(3, "FULL: there are 40");
        EDGES.done(Scenes.manyOf(0, 38), "the 39th", x -> x.comparer(0, 0, 1), 39, NET, UNDO);
        EDGES.done(Scenes.manyOf(0, 39), "the 40th", x -> x.comparer(0, 0, 1), 40, NET, UNDO);
        for (int k = 0; k < 5; k++) {
            int kind = k;
            EDGES.refused(Scenes::full, "comparer(" + k + ", 0, 1) of 40", x -> x.comparer(kind, 0, 1), FULL);
        }
        LaneNets x = Edges.made(Scenes::full);
        x.cut(39);
        due("the 40th behind a cut", 40, x.comparer(3, 2, 5));
        dueComparer(x, 39, 3, 2, 5, 0);
        due("the 41st", FULL, x.comparer(3, 2, 5));
        x.undo();
        due("the 40th behind an undo", 40, x.comparer(1, 0, 7));
    }

    private static void cutTaken() {
        EDGES.sentence(4, "comparers behind the first k are gone: how many");
        EDGES.done(Scenes::fresh, "cut(0), none", x -> x.cut(0), 0, UNDO);
        EDGES.done(Scenes::rich, "cut(6)", x -> x.cut(6), 0, UNDO);
        EDGES.done(Scenes::rich, "cut(5)", x -> x.cut(5), 1, NET, UNDO);
        EDGES.done(Scenes::rich, "cut(0)", x -> x.cut(0), 6, NET, UNDO);
        EDGES.done(Scenes::full, "cut(40)", x -> x.cut(40), 0, UNDO);
        EDGES.done(Scenes::full, "cut(39)", x -> x.cut(39), 1, NET, UNDO);
        EDGES.done(Scenes::full, "cut(0)", x -> x.cut(0), 40, NET, UNDO);
        LaneNets x = Edges.made(Scenes::rich);
        x.cut(5);
        due("told(1)", 5, x.told(1));
        dueComparer(x, 4, 4, 1, 2, 1);
        due("of(5, 0)", BEYOND, x.of(5, 0));
        x.cut(1);
        dueComparer(x, 0, 0, 0, 1, 0);
        x.cut(0);
        due("told(1)", 0, x.told(1));
        due("told(0)", 4, x.told(0));
    }

    private static void cutRefused() {
        EDGES.sentence(4, "BEYOND: there are not so many, or k is below 0");
        EDGES.refusedEach(Scenes::fresh, "cut(?)", (x, v) -> x.cut(v), BEYOND, 1, MOST, -1, LEAST);
        EDGES.refusedEach(Scenes::rich, "cut(?)", (x, v) -> x.cut(v), BEYOND, 7, MOST, -1, LEAST);
        EDGES.refusedEach(Scenes::full, "cut(?)", (x, v) -> x.cut(v), BEYOND, 41, MOST, -1, LEAST);
        LaneNets x = Edges.made(Scenes::rich);
        x.cut(2);
        due("cut(3) behind cut(2)", BEYOND, x.cut(3));
        due("cut(2) behind cut(2)", 0, x.cut(2));
    }

    private static void changeTaken() {
        EDGES.sentence(5, "comparer i is another kind (also the same one) from now on: what it was");
        for (int from = 0; from < 5; from++) {
            for (int to = 0; to < 5; to++) {
                int kind = to;
                String text = "change(1, " + to + ") of " + from;
                Edges.Scene scene = Scenes.netOf(4, 0, 0, 1, from, 1, 3, 1, 2, 3);
                if (from == to) {
                    EDGES.done(scene, text, x -> x.change(1, kind), from, UNDO);
                } else {
                    EDGES.done(scene, text, x -> x.change(1, kind), from, NET, UNDO);
                }
                LaneNets x = Edges.made(scene);
                x.change(1, kind);
                dueComparer(x, 0, 0, 0, 1, 0);
                dueComparer(x, 1, to, 1, 3, to == 4 ? 1 : 0);
                dueComparer(x, 2, 1, 2, 3, 0);
            }
        }
        EDGES.done(Scenes::full, "change(0, 1)", x -> x.change(0, 1), 0, NET, UNDO);
        EDGES.done(Scenes::full, "change(39, 0)", x -> x.change(39, 0), 4, NET, UNDO);
        EDGES.sentence(5, "also the same one: it can be undone");
        LaneNets x = Edges.made(Scenes.netOf(2, 1, 0, 1));
        x.change(0, 1);
        due("undo()", 2, x.undo());
    }

    private static void changeOfGates() {
        EDGES.sentence(5, "a GATE with its switch on");
        LaneNets x = Edges.made(Scenes::rich);
        due("of(5, 4), off", 0, x.of(5, 4));
        due("change(5, 4) of a GATE that is off", 4, x.change(5, 4));
        due("of(5, 4)", 1, x.of(5, 4));
        x.undo();
        due("of(5, 4), undone", 0, x.of(5, 4));
        due("change(5, 2)", 4, x.change(5, 2));
        due("of(5, 4) of a STUCK", 0, x.of(5, 4));
        due("change(5, 4)", 2, x.change(5, 4));
        due("of(5, 4)", 1, x.of(5, 4));
        due("turnSwitch(5, true)", 1, x.turnSwitch(5, true));
    }

    private static void changeRefused() {
        EDGES.sentence(5, "BEYOND: no such comparer, or kind");
        EDGES.refusedEach(Scenes::fresh, "change(?, 0)", (x, v) -> x.change(v, 0), BEYOND, 0, -1, LEAST, MOST);
        EDGES.refusedEach(Scenes::rich, "change(?, 0)", (x, v) -> x.change(v, 0), BEYOND, 6, -1, LEAST, MOST);
        EDGES.refusedEach(Scenes::full, "change(?, 0)", (x, v) -> x.change(v, 0), BEYOND, 40, -1, LEAST, MOST);
        EDGES.refusedEach(Scenes::rich, "change(0, ?)", (x, v) -> x.change(0, v), BEYOND, -1, LEAST, 5, MOST);
        EDGES.refused(Scenes::rich, "change(6, 5)", x -> x.change(6, 5), BEYOND);
        LaneNets x = Edges.made(Scenes::rich);
        x.cut(2);
        due("change(2, 0) behind cut(2)", BEYOND, x.change(2, 0));
        due("change(1, 0) behind cut(2)", 1, x.change(1, 0));
    }

    private static void switchTurned() {
        EDGES.sentence(6, "a GATE's switch: 1 it was on, 0 off");
        EDGES.done(Scenes::rich, "turnSwitch(4, true), on", x -> x.turnSwitch(4, true), 1, UNDO);
        EDGES.done(Scenes::rich, "turnSwitch(4, false), on", x -> x.turnSwitch(4, false), 1, NET, UNDO);
        EDGES.done(Scenes::rich, "turnSwitch(5, true), off", x -> x.turnSwitch(5, true), 0, NET, UNDO);
        EDGES.done(Scenes::rich, "turnSwitch(5, false), off", x -> x.turnSwitch(5, false), 0, UNDO);
        EDGES.done(Scenes::full, "turnSwitch(39, false)", x -> x.turnSwitch(39, false), 1, NET, UNDO);
        EDGES.done(Scenes.netOf(2, 4, 0, 1), "turnSwitch(0, false)", x -> x.turnSwitch(0, false), 1, NET, UNDO);
        LaneNets x = Edges.made(Scenes::rich);
        x.turnSwitch(4, false);
        dueComparer(x, 4, 4, 1, 2, 0);
        dueComparer(x, 5, 4, 0, 3, 0);
        x.turnSwitch(5, true);
        dueComparer(x, 4, 4, 1, 2, 0);
        dueComparer(x, 5, 4, 0, 3, 1);
    }

    private static void switchRefused() {
        EDGES.sentence(6, "BEYOND: no such comparer");
        EDGES.refusedEach(Scenes::fresh, "turnSwitch(?, true)", (x, v) -> x.turnSwitch(v, true), BEYOND,
            0, -1, LEAST, MOST);
        EDGES.refusedEach(Scenes::rich, "turnSwitch(?, false)", (x, v) -> x.turnSwitch(v, false), BEYOND,
            6, -1, LEAST, MOST);
        EDGES.refusedEach(Scenes::full, "turnSwitch(?, false)", (x, v) -> x.turnSwitch(v, false), BEYOND,
            40, -1, LEAST, MOST);
        EDGES.sentence(6, "KIND: it is no GATE");
        EDGES.refusedEach(Scenes::rich, "turnSwitch(?, true)", (x, v) -> x.turnSwitch(v, true), KIND, 0, 1, 2, 3);
        EDGES.refusedEach(Scenes::rich, "turnSwitch(?, false)", (x, v) -> x.turnSwitch(v, false), KIND, 0, 1, 2, 3);
        Edges.Scene noMore = x -> {
            Scenes.rich(x);
            x.change(4, 0);
        };
        EDGES.refused(noMore, "one that was a GATE", x -> x.turnSwitch(4, false), KIND);
    }

    private static void asTaken() {
        EDGES.sentence(7, "a comparer as one of a kind: its number (i)");
        String[] kinds = {"0", "01", "02", "013", "024"};
        for (int own = 0; own < 5; own++) {
            for (int of = 0; of < 5; of++) {
                int kind = of;
                Edges.Scene scene = Scenes.netOf(3, 0, 0, 2, own, 0, 1);
                String text = "as(1, " + of + ") of " + own;
                if (kinds[own].indexOf('0' + of) >= 0) {
                    EDGES.asked(scene, text, x -> x.as(1, kind), 1);
                } else {
                    EDGES.sentence(7, "KIND: it is not of that kind, nor of one under it");
                    EDGES.refused(scene, text, x -> x.as(1, kind), KIND);
                    EDGES.sentence(7, "a comparer as one of a kind: its number (i)");
                }
            }
        }
        EDGES.asked(Scenes::rich, "as(5, 4) of a GATE that is off", x -> x.as(5, 4), 5);
        EDGES.asked(Scenes::rich, "as(5, 0) of a GATE that is off", x -> x.as(5, 0), 5);
        EDGES.asked(Scenes::full, "as(0, 0)", x -> x.as(0, 0), 0);
        EDGES.asked(Scenes::full, "as(39, 2)", x -> x.as(39, 2), 39);
    }

    private static void asRefused() {
        EDGES.sentence(7, "BEYOND: no such comparer, or kind");
        EDGES.refusedEach(Scenes::fresh, "as(?, 0)", (x, v) -> x.as(v, 0), BEYOND, 0, -1, LEAST, MOST);
        EDGES.refusedEach(Scenes::rich, "as(?, 0)", (x, v) -> x.as(v, 0), BEYOND, 6, -1, LEAST, MOST);
        EDGES.refusedEach(Scenes::full, "as(?, 0)", (x, v) -> x.as(v, 0), BEYOND, 40, -1, LEAST, MOST);
        EDGES.sentence(7, "BEYOND ahead of KIND: a comparer is of no such kind");
        EDGES.refusedEach(Scenes::rich, "as(0, ?)", (x, v) -> x.as(0, v), BEYOND, -1, LEAST, 5, MOST);
        EDGES.refusedEach(Scenes::rich, "as(5, ?)", (x, v) -> x.as(5, v), BEYOND, -1, LEAST, 5, MOST);
    }

    private static void ofRounds() {
        EDGES.sentence(8, "its round (from 1 on): each as early as can be, behind those ahead of it");
        for (int k = 0; k < 5; k++) {
            LaneNets x = Edges.made(Scenes.netOf(8, 0, 6, 7, k, 0, 1, k, 2, 3, k, 1, 2, 0, 4, 5, k, 0, 3, k, 3, 4));
            int[] rounds = {1, 1, 1, 2, 1, 2, 3};
            for (int i = 0; i < 7; i++) {
                due("of(" + i + ", 3), kind " + k, rounds[i], x.of(i, 3));
            }
            due("rounds()", 3, x.rounds());
        }
        for (int i = 0; i < 40; i += 13) {
            int number = i;
            EDGES.asked(Scenes.manyOf(2, 40), "of(" + i + ", 3)", x -> x.of(number, 3), i + 1);
        }
        EDGES.sentence(8, "of whatever kind: also a GATE that is off");
        LaneNets off = Edges.made(Scenes.netOf(3, 4, 0, 1, 0, 1, 2));
        off.turnSwitch(0, false);
        due("of(1, 3)", 2, off.of(1, 3));
    }

    private static void ofSwitch() {
        EDGES.sentence(8, "4 its switch (1, 0; of others 0)");
        int[] switches = {0, 0, 0, 0, 1, 0};
        int[] kinds = {0, 1, 2, 3, 4, 4};
        int[] low = {0, 2, 0, 1, 1, 0};
        int[] high = {1, 3, 2, 3, 2, 3};
        for (int k = 0; k < 6; k++) {
            int i = k;
            EDGES.asked(Scenes::rich, "of(" + i + ", 4)", x -> x.of(i, 4), switches[i]);
            EDGES.asked(Scenes::rich, "of(" + i + ", 0)", x -> x.of(i, 0), kinds[i]);
            EDGES.asked(Scenes::rich, "of(" + i + ", 1)", x -> x.of(i, 1), low[i]);
            EDGES.asked(Scenes::rich, "of(" + i + ", 2)", x -> x.of(i, 2), high[i]);
        }
        LaneNets x = Edges.made(Scenes::rich);
        x.change(4, 2);
        due("of(4, 4), a GATE no more", 0, x.of(4, 4));
    }

    private static void ofRefused() {
        EDGES.sentence(8, "BEYOND: no such comparer, or another what");
        EDGES.refusedEach(Scenes::rich, "of(0, ?)", (x, v) -> x.of(0, v), BEYOND, -1, LEAST, 5, MOST);
        for (int w = 0; w < 5; w++) {
            int what = w;
            String text = "of(?, " + w + ")";
            EDGES.refusedEach(Scenes::fresh, text, (x, v) -> x.of(v, what), BEYOND, 0, -1, LEAST, MOST);
            EDGES.refusedEach(Scenes::rich, text, (x, v) -> x.of(v, what), BEYOND, 6, -1, LEAST, MOST);
            EDGES.refusedEach(Scenes::full, text, (x, v) -> x.of(v, what), BEYOND, 40, -1, LEAST, MOST);
        }
        EDGES.refused(Scenes::rich, "of(6, 5)", x -> x.of(6, 5), BEYOND);
    }

    private static void rounds() {
        EDGES.sentence(9, "how many rounds there are");
        for (int n = 2; n <= 8; n++) {
            EDGES.asked(Scenes.netOf(n), "rounds(), no comparers", x -> x.rounds(), 0);
            EDGES.asked(Scenes.netOf(n, 0, 0, 1), "rounds(), one", x -> x.rounds(), 1);
        }
        EDGES.asked(Scenes.netOf(8, 2, 0, 7, 1, 1, 6, 3, 2, 5, 4, 3, 4), "rounds()", x -> x.rounds(), 1);
        EDGES.asked(Scenes.manyOf(4, 40), "rounds() of 40", x -> x.rounds(), 40);
        EDGES.asked(Scenes.netOf(4, 0, 0, 1, 0, 0, 1, 0, 0, 1, 0, 2, 3), "rounds(), not of the last", x -> x.rounds(), 3);
        LaneNets x = Edges.made(Scenes.manyOf(0, 40));
        x.cut(1);
        due("rounds() behind cut(1)", 1, x.rounds());
        x.cut(0);
        due("rounds() behind cut(0)", 0, x.rounds());
    }
}
