/** Each promise of the document by itself: ordinary inputs, its edges, its findings in their order. */
public final class PromiseTest {
    private static final int BEYOND = -1;
    private static final int MISSING = -2;
    private static final int SIZE = -3;
    private static final int KIND = -4;
    private static final int FULL = -5;
    private static final int NONE = -6;
    private static final int STICKS = -7;
    private static final int LONG = -8;

    private static final Checks CHECKS = new Checks();

    private static void due(String call, long want, long got) {
        CHECKS.due(call, want, got);
    }

    /** A net of comparers, told as kind, a, b of each. */
    private static LaneNets netOf(int lanes, int... comparers) {
        LaneNets x = new LaneNets();
        x.lanes(lanes);
        for (int i = 0; i + 2 < comparers.length; i += 3) {
            x.comparer(comparers[i], comparers[i + 1], comparers[i + 2]);
        }
        return x;
    }

    private static LaneNets crateOf(int kind, long... loads) {
        LaneNets x = new LaneNets();
        x.crate(0, kind, loads.length);
        for (int i = 0; i < loads.length; i++) {
            x.put(0, i, loads[i]);
        }
        return x;
    }

    private static LaneNets sortingFour() {
        return netOf(4, 0, 0, 1, 0, 2, 3, 0, 0, 2, 0, 1, 3, 0, 1, 2);
    }

    private static void dueComparer(LaneNets x, int i, int kind, int a, int b, int on) {
        due("of(" + i + ", 0)", kind, x.of(i, 0));
        due("of(" + i + ", 1)", a, x.of(i, 1));
        due("of(" + i + ", 2)", b, x.of(i, 2));
        due("of(" + i + ", 4)", on, x.of(i, 4));
    }

    private static void dueLoads(LaneNets x, int c, long... loads) {
        for (int i = 0; i < loads.length; i++) {
            due("load(" + c + ", " + i + ")", loads[i], x.load(c, i));
        }
    }

    /** Says what a finding left as it was: the net's size, and that nothing can be undone. */
    private static void dueUntouched(LaneNets x, int lanes, int comparers, int undoable) {
        due("lanes", lanes, x.told(0));
        due("comparers", comparers, x.told(1));
        due("undo", undoable == 0 ? NONE : undoable - 1, x.undo());
    }

    private static void newObject() {
        LaneNets x = new LaneNets();
        for (int what = 0; what < 4; what++) {
            due("told(" + what + ")", what == 0 ? 2 : 0, x.told(what));
        }
        for (int c = 0; c < 6; c++) {
            due("rises(" + c + ")", MISSING, x.rises(c));
        }
        for (int slot = 0; slot < 4; slot++) {
            due("bring(" + slot + ")", NONE, x.bring(slot));
        }
        due("undo()", NONE, x.undo());
        due("rounds()", 0, x.rounds());
    }

    private static void lanes() {
        LaneNets x = netOf(3, 0, 0, 1, 2, 1, 2);
        due("lanes(1)", BEYOND, x.lanes(1));
        due("lanes(9)", BEYOND, x.lanes(9));
        due("lanes(-1)", BEYOND, x.lanes(-1));
        due("told(1)", 2, x.told(1));
        due("lanes(2)", 2, x.lanes(2));
        due("told(0)", 2, x.told(0));
        due("told(1)", 0, x.told(1));
        due("lanes(8)", 0, x.lanes(8));
        due("told(0)", 8, x.told(0));
        due("lanes(8)", 0, x.lanes(8));
        due("undo()", 5, x.undo());
    }

    private static void comparer() {
        LaneNets x = new LaneNets();
        due("comparer(-1, 0, 1)", BEYOND, x.comparer(-1, 0, 1));
        due("comparer(5, 1, 0)", BEYOND, x.comparer(5, 1, 0));
        due("comparer(0, 0, 2)", BEYOND, x.comparer(0, 0, 2));
        due("comparer(0, 2, 0)", BEYOND, x.comparer(0, 2, 0));
        due("comparer(0, -1, 1)", BEYOND, x.comparer(0, -1, 1));
        due("comparer(0, 1, -1)", BEYOND, x.comparer(0, 1, -1));
        due("comparer(0, 1, 1)", SIZE, x.comparer(0, 1, 1));
        due("comparer(0, 1, 0)", SIZE, x.comparer(0, 1, 0));
        dueUntouched(x, 2, 0, 0);
        x.lanes(8);
        for (int i = 0; i < 40; i++) {
            due("comparer", i + 1, x.comparer(i % 5, i % 7, i % 7 + 1));
        }
        for (int i = 0; i < 40; i++) {
            dueComparer(x, i, i % 5, i % 7, i % 7 + 1, i % 5 == 4 ? 1 : 0);
        }
        due("comparer(0, 0, 1) of 40", FULL, x.comparer(0, 0, 1));
        due("comparer(0, 1, 1) of 40", SIZE, x.comparer(0, 1, 1));
        due("comparer(0, 1, 8) of 40", BEYOND, x.comparer(0, 1, 8));
        due("told(1)", 40, x.told(1));
        due("told(3)", 12, x.told(3));
    }

    private static void cut() {
        LaneNets x = netOf(3, 0, 0, 1, 1, 1, 2, 2, 0, 2);
        due("cut(4)", BEYOND, x.cut(4));
        due("cut(-1)", BEYOND, x.cut(-1));
        due("cut(3)", 0, x.cut(3));
        due("cut(1)", 2, x.cut(1));
        dueComparer(x, 0, 0, 0, 1, 0);
        due("told(1)", 1, x.told(1));
        due("cut(0)", 1, x.cut(0));
        due("told(0)", 3, x.told(0));
        due("undo()", 6, x.undo());
        due("undo()", 5, x.undo());
        dueComparer(x, 2, 2, 0, 2, 0);
    }

    private static void change() {
        LaneNets x = netOf(3, 0, 0, 1, 4, 1, 2);
        due("change(2, 0)", BEYOND, x.change(2, 0));
        due("change(-1, 0)", BEYOND, x.change(-1, 0));
        due("change(0, 5)", BEYOND, x.change(0, 5));
        due("change(0, -1)", BEYOND, x.change(0, -1));
        due("change(0, 3)", 0, x.change(0, 3));
        dueComparer(x, 0, 3, 0, 1, 0);
        due("change(0, 4)", 3, x.change(0, 4));
        dueComparer(x, 0, 4, 0, 1, 1);
        x.turnSwitch(1, false);
        due("change(1, 4)", 4, x.change(1, 4));
        dueComparer(x, 1, 4, 1, 2, 1);
        due("change(1, 2)", 4, x.change(1, 2));
        dueComparer(x, 1, 2, 1, 2, 0);
        due("change(1, 2)", 2, x.change(1, 2));
        due("undo()", 8, x.undo());
        dueComparer(x, 1, 2, 1, 2, 0);
        x.undo();
        x.undo();
        dueComparer(x, 1, 4, 1, 2, 0);
    }

    private static void turnSwitch() {
        LaneNets x = netOf(3, 4, 0, 1, 0, 1, 2, 2, 0, 2, 1, 0, 1, 3, 0, 1);
        due("turnSwitch(5, true)", BEYOND, x.turnSwitch(5, true));
        due("turnSwitch(-1, true)", BEYOND, x.turnSwitch(-1, true));
        for (int i = 1; i < 5; i++) {
            due("turnSwitch(" + i + ", true)", KIND, x.turnSwitch(i, true));
        }
        due("told(3)", 6, x.told(3));
        due("turnSwitch(0, true)", 1, x.turnSwitch(0, true));
        due("turnSwitch(0, false)", 1, x.turnSwitch(0, false));
        due("of(0, 4)", 0, x.of(0, 4));
        due("turnSwitch(0, false)", 0, x.turnSwitch(0, false));
        due("turnSwitch(0, true)", 0, x.turnSwitch(0, true));
        dueComparer(x, 0, 4, 0, 1, 1);
        due("undo()", 9, x.undo());
        due("of(0, 4)", 0, x.of(0, 4));
        due("undo()", 8, x.undo());
        due("undo()", 7, x.undo());
        due("of(0, 4)", 1, x.of(0, 4));
    }

    private static void as() {
        LaneNets x = netOf(2, 0, 0, 1, 1, 0, 1, 2, 0, 1, 3, 0, 1, 4, 0, 1);
        String[] under = {"0", "01", "02", "013", "024"};
        for (int i = 0; i < 5; i++) {
            for (int kind = 0; kind < 5; kind++) {
                boolean is = under[i].indexOf('0' + kind) >= 0;
                due("as(" + i + ", " + kind + ")", is ? i : KIND, x.as(i, kind));
            }
            due("as(" + i + ", 5)", BEYOND, x.as(i, 5));
            due("as(" + i + ", -1)", BEYOND, x.as(i, -1));
        }
        due("as(5, 0)", BEYOND, x.as(5, 0));
        due("as(-1, 0)", BEYOND, x.as(-1, 0));
        x.turnSwitch(4, false);
        due("as(4, 0), off", 4, x.as(4, 0));
        due("told(3)", 26, x.told(3));
    }

    private static void of() {
        LaneNets x = netOf(5, 2, 0, 1, 1, 2, 3, 3, 1, 2, 4, 0, 4, 0, 3, 4);
        int[] rounds = {1, 1, 2, 2, 3};
        for (int i = 0; i < 5; i++) {
            due("of(" + i + ", 3)", rounds[i], x.of(i, 3));
        }
        dueComparer(x, 1, 1, 2, 3, 0);
        dueComparer(x, 3, 4, 0, 4, 1);
        x.turnSwitch(3, false);
        dueComparer(x, 3, 4, 0, 4, 0);
        due("of(5, 0)", BEYOND, x.of(5, 0));
        due("of(-1, 0)", BEYOND, x.of(-1, 0));
        due("of(0, 5)", BEYOND, x.of(0, 5));
        due("of(0, -1)", BEYOND, x.of(0, -1));
        due("told(3)", 4, x.told(3));
    }

    private static void rounds() {
        due("rounds()", 0, new LaneNets().rounds());
        due("rounds()", 3, netOf(5, 2, 0, 1, 1, 2, 3, 3, 1, 2, 4, 0, 4, 0, 3, 4).rounds());
        due("rounds()", 1, netOf(8, 0, 0, 7, 0, 1, 6, 0, 2, 5, 0, 3, 4).rounds());
        due("rounds()", 3, netOf(4, 0, 0, 1, 0, 0, 1, 0, 0, 1, 0, 2, 3).rounds());
    }

    private static void crate() {
        LaneNets x = new LaneNets();
        due("crate(-1, 0, -1)", BEYOND, x.crate(-1, 0, -1));
        due("crate(6, 1, 1)", BEYOND, x.crate(6, 1, 1));
        due("crate(0, -1, -1)", BEYOND, x.crate(0, -1, -1));
        due("crate(0, 8, 1)", BEYOND, x.crate(0, 8, 1));
        due("crate(0, 1, -1)", SIZE, x.crate(0, 1, -1));
        due("crate(0, 0, -1)", SIZE, x.crate(0, 0, -1));
        due("crate(0, 1, 13)", BEYOND, x.crate(0, 1, 13));
        due("crate(0, 0, 13)", BEYOND, x.crate(0, 0, 13));
        due("rises(0)", MISSING, x.rises(0));
        due("told(3)", 9, x.told(3));
        for (int kind = 1; kind < 8; kind++) {
            due("crate(5, " + kind + ", 12)", 12, x.crate(5, kind, 12));
            dueLoads(x, 5, 0, 0, 0, 0, 0, 0, 0, 0, 0, 0, 0, 0);
            x.put(5, 0, 1);
            x.put(5, 11, 1);
        }
        due("crate(5, 0, 99)", BEYOND, x.crate(5, 0, 99));
        due("load(5, 11)", 1, x.load(5, 11));
        due("crate(5, 4, 0)", 0, x.crate(5, 4, 0));
        due("rises(5)", 1, x.rises(5));
        due("crate(5, 0, 12)", 0, x.crate(5, 0, 12));
        due("rises(5)", MISSING, x.rises(5));
        due("told(1)", 0, x.told(1));
        due("undo()", NONE, x.undo());
    }

    private static void put() {
        LaneNets x = crateOf(4, 1, 2, 3);
        due("put(-1, 0, 1)", BEYOND, x.put(-1, 0, 1));
        due("put(6, 0, 1)", BEYOND, x.put(6, 0, 1));
        due("put(1, 9, 1)", MISSING, x.put(1, 9, 1));
        due("put(0, 3, 1)", BEYOND, x.put(0, 3, 1));
        due("put(0, -1, 1)", BEYOND, x.put(0, -1, 1));
        due("put(0, 2, 7)", 0, x.put(0, 2, 7));
        dueLoads(x, 0, 1, 2, 7);
        dueLoads(crateOf(1, 127, 128, 256, -129, 0x1234567890L), 0, 127, -128, 0, 127, -112);
        dueLoads(crateOf(2, 65535, 65536, -1, -65536, 32768), 0, 65535, 0, 65535, 0, 32768);
        dueLoads(crateOf(3, 32767, 32768, 65535, -32769), 0, 32767, -32768, -1, 32767);
        dueLoads(crateOf(4, 2147483648L, -1, 4294967296L), 0, -2147483648L, -1, 0);
        dueLoads(crateOf(5, Long.MAX_VALUE, -1, Long.MIN_VALUE), 0, Long.MAX_VALUE, -1, Long.MIN_VALUE);
        long usual = 0x7fc00000L;
        dueLoads(crateOf(6, 0x7f800001L, 0xff800001L, 0x7fffffffL, 0xffffffffL, 0xffc00000L, -1),
            0, usual, usual, usual, usual, usual, usual);
        dueLoads(crateOf(6, 0x7f800000L, 0xff800000L, 0x80000000L, 0x123400000001L, 0x3f800000L),
            0, 0x7f800000L, (int) 0xff800000L, -2147483648L, 1, 0x3f800000L);
        long usualDouble = 0x7ff8000000000000L;
        dueLoads(crateOf(7, 0x7ff0000000000001L, 0xfff0000000000001L, Long.MAX_VALUE, -1),
            0, usualDouble, usualDouble, usualDouble, usualDouble);
        dueLoads(crateOf(7, 0x7ff0000000000000L, 0xfff0000000000000L, Long.MIN_VALUE, 1, 0x7f800001L),
            0, 0x7ff0000000000000L, 0xfff0000000000000L, Long.MIN_VALUE, 1, 0x7f800001L);
    }

    private static void load() {
        LaneNets x = crateOf(5, 5, Long.MIN_VALUE);
        due("load(0, 1)", Long.MIN_VALUE, x.load(0, 1));
        due("told(3)", 0, x.told(3));
        due("load(0, 0)", 5, x.load(0, 0));
        due("load(0, 2)", Long.MIN_VALUE, x.load(0, 2));
        due("load(0, -1)", Long.MIN_VALUE, x.load(0, -1));
        due("load(1, 0)", Long.MIN_VALUE, x.load(1, 0));
        due("load(6, 0)", Long.MIN_VALUE, x.load(6, 0));
        due("load(-1, 0)", Long.MIN_VALUE, x.load(-1, 0));
        due("told(3)", 5, x.told(3));
    }

    private static void copy() {
        LaneNets x = crateOf(4, 1, 2, 3, 4, 5);
        x.crate(1, 4, 3);
        x.crate(2, 5, 3);
        due("copy(6, 0, 3, 0, 0)", BEYOND, x.copy(6, 0, 3, 0, 0));
        due("copy(3, 0, -1, 0, 0)", BEYOND, x.copy(3, 0, -1, 0, 0));
        due("copy(3, 0, 2, 0, 9)", MISSING, x.copy(3, 0, 2, 0, 9));
        due("copy(2, 0, 3, 0, 9)", MISSING, x.copy(2, 0, 3, 0, 9));
        due("copy(0, 0, 2, 0, -1)", KIND, x.copy(0, 0, 2, 0, -1));
        due("copy(0, -1, 1, 0, 1)", BEYOND, x.copy(0, -1, 1, 0, 1));
        due("copy(0, 0, 1, -1, 1)", BEYOND, x.copy(0, 0, 1, -1, 1));
        due("copy(0, 0, 1, 0, -1)", BEYOND, x.copy(0, 0, 1, 0, -1));
        due("copy(0, 3, 1, 0, 3)", BEYOND, x.copy(0, 3, 1, 0, 3));
        due("copy(0, 0, 1, 1, 3)", BEYOND, x.copy(0, 0, 1, 1, 3));
        due("copy(0, MAX, 1, 0, MAX)", BEYOND, x.copy(0, Integer.MAX_VALUE, 1, 0, Integer.MAX_VALUE));
        due("copy(0, 0, 1, MAX, 1)", BEYOND, x.copy(0, 0, 1, Integer.MAX_VALUE, 1));
        due("copy(0, 0, 1, 0, MIN)", BEYOND, x.copy(0, 0, 1, 0, Integer.MIN_VALUE));
        due("copy(0, 6, 1, 0, 0)", BEYOND, x.copy(0, 6, 1, 0, 0));
        due("copy(0, 5, 1, 3, 0)", 0, x.copy(0, 5, 1, 3, 0));
        dueLoads(x, 1, 0, 0, 0);
        due("copy(0, 3, 1, 1, 2)", 2, x.copy(0, 3, 1, 1, 2));
        dueLoads(x, 1, 0, 4, 5);
        due("copy(0, 0, 0, 1, 4)", 4, x.copy(0, 0, 0, 1, 4));
        dueLoads(x, 0, 1, 1, 2, 3, 4);
        due("copy(0, 1, 0, 0, 4)", 4, x.copy(0, 1, 0, 0, 4));
        dueLoads(x, 0, 1, 2, 3, 4, 4);
        due("told(3)", 14, x.told(3));
    }

    private static void run() {
        LaneNets x = crateOf(4, 3, 1, 2, 0);
        x.lanes(3);
        due("run(0), no comparers", 0, x.run(0));
        due("run(-1)", BEYOND, x.run(-1));
        due("run(6)", BEYOND, x.run(6));
        due("run(1)", MISSING, x.run(1));
        x.crate(1, 4, 2);
        due("run(1)", SIZE, x.run(1));
        due("told(3)", 4, x.told(3));
        x.comparer(0, 0, 1);
        x.comparer(0, 1, 2);
        x.comparer(0, 0, 1);
        due("run(0)", 2, x.run(0));
        dueLoads(x, 0, 1, 2, 3, 0);
        due("run(0)", 0, x.run(0));
        eachKindRuns();
        likeLoadsStay();
        runsByOrderOfKind();
    }

    private static void eachKindRuns() {
        int[] changesRising = {0, 1, 0, 1, 0};
        int[] changesFalling = {1, 0, 0, 1, 1};
        for (int kind = 0; kind < 5; kind++) {
            LaneNets x = crateOf(5, 1, 2);
            x.comparer(kind, 0, 1);
            due("run(0) of 1, 2 by kind " + kind, changesRising[kind], x.run(0));
            due("load(0, 0)", 1 + changesRising[kind], x.load(0, 0));
            x.put(0, 0, 2);
            x.put(0, 1, 1);
            due("run(0) of 2, 1 by kind " + kind, changesFalling[kind], x.run(0));
            due("load(0, 0)", 2 - changesFalling[kind], x.load(0, 0));
        }
        LaneNets gate = crateOf(5, 2, 1);
        gate.comparer(4, 0, 1);
        gate.turnSwitch(0, false);
        due("run(0) by a GATE that is off", 0, gate.run(0));
        dueLoads(gate, 0, 2, 1);
    }

    private static void likeLoadsStay() {
        int[] changes = {0, 0, 0, 1, 0};
        for (int kind = 0; kind < 5; kind++) {
            LaneNets x = crateOf(6, 0x7fc00001L, 0xffc00001L);
            x.comparer(kind, 0, 1);
            due("run(0) of like loads by kind " + kind, changes[kind], x.run(0));
        }
    }

    private static void runsByOrderOfKind() {
        LaneNets bytes = crateOf(1, 1, 255);
        bytes.comparer(0, 0, 1);
        due("run(0) of bytes", 1, bytes.run(0));
        LaneNets chars = crateOf(2, 1, 65535);
        chars.comparer(0, 0, 1);
        due("run(0) of chars", 0, chars.run(0));
        LaneNets floats = crateOf(6, 0, 0x80000000L);
        floats.comparer(0, 0, 1);
        due("run(0) of floats", 1, floats.run(0));
        dueLoads(floats, 0, -2147483648L, 0);
        LaneNets doubles = crateOf(7, -1, 0x7ff0000000000000L);
        doubles.comparer(0, 0, 1);
        due("run(0) of doubles", 1, doubles.run(0));
    }

    private static void rises() {
        due("rises(0)", 1, crateOf(4).rises(0));
        due("rises(0)", 1, crateOf(4, 7).rises(0));
        due("rises(0)", 1, crateOf(4, -1, 0, 0, 5).rises(0));
        due("rises(0)", 0, crateOf(4, -1, 0, 1, 0).rises(0));
        due("rises(0)", 0, crateOf(4, 1, 0, 1, 2).rises(0));
        due("rises(0)", 1, crateOf(6, 0xff800000L, 0xbf800000L, 0x80000001L, 0x80000000L, 0, 1, 0x3f800000L,
            0x7f800000L, 0x7fc00000L, 0xffffffffL).rises(0));
        due("rises(0)", 1, crateOf(7, 0xfff0000000000000L, 0xbff0000000000000L, 0x8000000000000001L, Long.MIN_VALUE,
            0, 1, 0x3ff0000000000000L, 0x7ff0000000000000L, 0x7ff8000000000000L, -1).rises(0));
        due("rises(0)", 0, crateOf(7, 0, Long.MIN_VALUE).rises(0));
        due("rises(0)", 0, crateOf(2, 65535, 1).rises(0));
        due("rises(1)", MISSING, crateOf(2).rises(1));
        due("rises(6)", BEYOND, crateOf(2).rises(6));
        due("rises(-1)", BEYOND, crateOf(2).rises(-1));
    }

    private static void order() {
        LaneNets x = crateOf(3, -1, 5, 5);
        due("order(0, 0, 1)", 9, x.order(0, 0, 1));
        due("order(0, 1, 2)", 10, x.order(0, 1, 2));
        due("order(0, 1, 0)", 11, x.order(0, 1, 0));
        due("order(6, 0, 0)", BEYOND, x.order(6, 0, 0));
        due("order(-1, 0, 0)", BEYOND, x.order(-1, 0, 0));
        due("order(1, 9, 9)", MISSING, x.order(1, 9, 9));
        due("order(0, 3, 0)", BEYOND, x.order(0, 3, 0));
        due("order(0, 0, 3)", BEYOND, x.order(0, 0, 3));
        due("order(0, -1, 0)", BEYOND, x.order(0, -1, 0));
        due("order(0, 0, -1)", BEYOND, x.order(0, 0, -1));
        due("told(3)", 7, x.told(3));
        LaneNets longs = crateOf(5, Long.MIN_VALUE, Long.MAX_VALUE);
        due("order(0, 0, 1)", 9, longs.order(0, 0, 1));
        LaneNets floats = crateOf(6, 0x80000000L, 0, 0xffc00000L, 0x7f800000L, 0x7fc00001L, 0xbf800000L, 0xc0000000L);
        due("-0 and 0", 9, floats.order(0, 0, 1));
        due("no number and infinity", 11, floats.order(0, 2, 3));
        due("no number and another", 10, floats.order(0, 2, 4));
        due("-1 and -2", 11, floats.order(0, 5, 6));
        LaneNets doubles = crateOf(7, Long.MIN_VALUE, 0, -1, 0x7ff0000000000000L);
        due("-0 and 0", 9, doubles.order(0, 0, 1));
        due("no number and infinity", 11, doubles.order(0, 2, 3));
        due("0 and 0", 10, doubles.order(0, 1, 1));
    }

    private static void out() {
        LaneNets x = netOf(3, 0, 0, 1, 1, 0, 2, 3, 1, 2);
        int[] outs = {0, 4, 4, 5, 1, 5, 5, 7};
        for (int row = 0; row < 8; row++) {
            due("out(" + row + ")", outs[row], x.out(row));
        }
        due("out(8)", BEYOND, x.out(8));
        due("out(-1)", BEYOND, x.out(-1));
        LaneNets gate = netOf(2, 4, 0, 1);
        due("out(1)", 2, gate.out(1));
        gate.turnSwitch(0, false);
        due("out(1)", 1, gate.out(1));
        LaneNets eight = netOf(8, 0, 0, 7, 1, 5, 6, 3, 6, 7);
        due("out(0)", 0, eight.out(0));
        due("out(1)", 64, eight.out(1));
        due("out(64)", 32, eight.out(64));
        due("out(130)", 66, eight.out(130));
        due("out(255)", 255, eight.out(255));
        due("out(256)", BEYOND, eight.out(256));
        due("out(4)", BEYOND, new LaneNets().out(4));
        due("out(3)", 3, new LaneNets().out(3));
    }

    /** A net of neighbours alone that sorts up to 8 lanes: by turns even and odd ones. */
    private static LaneNets bricks(int lanes) {
        LaneNets x = new LaneNets();
        x.lanes(lanes);
        for (int round = 0; round < lanes; round++) {
            for (int a = round % 2; a + 1 < lanes; a += 2) {
                x.comparer(0, a, a + 1);
            }
        }
        return x;
    }

    private static void sorts() {
        for (int n = 2; n <= 8; n++) {
            LaneNets x = bricks(n);
            due("sorts() of bricks " + n, 1, x.sorts());
            x.cut(x.told(1) - 1);
            due("sorts() of cut bricks " + n, 0, x.sorts());
            x.lanes(n);
            due("sorts() of none " + n, 0, x.sorts());
        }
        due("sorts()", 0, netOf(2, 1, 0, 1).sorts());
        due("sorts()", 1, netOf(2, 1, 0, 1, 3, 0, 1).sorts());
        LaneNets gate = netOf(2, 4, 0, 1);
        due("sorts()", 1, gate.sorts());
        gate.turnSwitch(0, false);
        due("sorts()", 0, gate.sorts());
    }

    private static void fails() {
        for (int n = 2; n <= 8; n++) {
            LaneNets x = new LaneNets();
            x.lanes(n);
            due("fails(false) of none " + n, (1 << n) - n - 1, x.fails(false));
            due("fails(true) of none " + n, 1, x.fails(true));
        }
        LaneNets x = bricks(7);
        due("fails(false)", 0, x.fails(false));
        due("told(3)", 0, x.told(3));
        due("fails(true)", NONE, x.fails(true));
        due("told(3)", 1, x.told(3));
        LaneNets late = bricks(8);
        late.comparer(3, 0, 1);
        due("fails(false), rows of seven ones alone", 8, late.fails(false));
        due("fails(true), rows of seven ones alone", 127, late.fails(true));
        due("told(3)", 0, late.told(3));
    }

    private static void merges() {
        LaneNets x = netOf(4, 0, 0, 2, 0, 1, 3, 0, 1, 2);
        due("merges(2)", 1, x.merges(2));
        due("merges(1)", 0, x.merges(1));
        due("merges(3)", 0, x.merges(3));
        due("merges(0)", BEYOND, x.merges(0));
        due("merges(4)", BEYOND, x.merges(4));
        due("merges(-1)", BEYOND, x.merges(-1));
        due("sorts()", 0, x.sorts());
        LaneNets down = netOf(4, 0, 2, 3, 0, 1, 2, 0, 0, 1);
        due("merges(1)", 0, down.merges(1));
        due("merges(3)", 1, down.merges(3));
        LaneNets up = netOf(8, 0, 0, 1, 0, 1, 2, 0, 2, 3, 0, 3, 4, 0, 4, 5, 0, 5, 6, 0, 6, 7);
        due("merges(1)", 1, up.merges(1));
        due("merges(2)", 0, up.merges(2));
        due("merges(7)", 0, up.merges(7));
        due("merges(1), no comparers", 0, new LaneNets().merges(1));
    }

    private static void idle() {
        LaneNets x = netOf(3, 0, 0, 1, 4, 0, 1, 1, 0, 1, 2, 1, 2, 4, 0, 2, 3, 0, 1);
        int[] idles = {0, 1, 0, 1, 0, 0};
        for (int i = 0; i < 6; i++) {
            due("idle(" + i + ")", idles[i], x.idle(i));
        }
        x.turnSwitch(4, false);
        due("idle(4), off", 1, x.idle(4));
        due("idle(6)", BEYOND, x.idle(6));
        due("idle(-1)", BEYOND, x.idle(-1));
        LaneNets eight = netOf(8, 0, 6, 7, 0, 6, 7, 0, 0, 1, 0, 0, 1);
        due("idle(0)", 0, eight.idle(0));
        due("idle(1)", 1, eight.idle(1));
        due("idle(2)", 0, eight.idle(2));
        due("idle(3)", 1, eight.idle(3));
        due("told(1)", 4, eight.told(1));
        LaneNets back = netOf(2, 1, 0, 1, 1, 0, 1);
        due("idle(0)", 0, back.idle(0));
        due("idle(1)", 1, back.idle(1));
    }

    private static void drop() {
        LaneNets x = netOf(3, 0, 0, 1, 4, 0, 1, 1, 0, 1, 2, 1, 2, 4, 0, 2, 3, 0, 1);
        due("drop()", 2, x.drop());
        due("told(1)", 4, x.told(1));
        dueComparer(x, 0, 0, 0, 1, 0);
        dueComparer(x, 1, 1, 0, 1, 0);
        dueComparer(x, 2, 4, 0, 2, 1);
        dueComparer(x, 3, 3, 0, 1, 0);
        due("drop()", 0, x.drop());
        due("undo()", 8, x.undo());
        due("undo()", 7, x.undo());
        due("told(1)", 6, x.told(1));
        LaneNets stuck = netOf(2, 2, 0, 1, 2, 0, 1);
        due("drop()", 2, stuck.drop());
        due("drop(), no comparers", 0, stuck.drop());
    }

    private static void turn() {
        LaneNets x = netOf(4, 1, 0, 1, 0, 1, 2, 3, 0, 3, 4, 0, 1, 1, 2, 3);
        due("turn()", 4, x.turn());
        dueComparer(x, 0, 0, 0, 1, 0);
        dueComparer(x, 1, 0, 0, 2, 0);
        dueComparer(x, 2, 0, 0, 3, 0);
        dueComparer(x, 3, 0, 1, 2, 0);
        due("undo()", 6, x.undo());
        dueComparer(x, 2, 3, 0, 3, 0);
        due("told(1)", 5, x.told(1));
        LaneNets stuck = netOf(2, 1, 0, 1, 2, 0, 1);
        due("turn()", STICKS, stuck.turn());
        dueComparer(stuck, 0, 1, 0, 1, 0);
        LaneNets off = netOf(2, 1, 0, 1, 4, 0, 1);
        off.turnSwitch(1, false);
        due("turn()", STICKS, off.turn());
        dueUntouched(off, 2, 2, 4);
        LaneNets crossed = netOf(2, 3, 0, 1);
        due("turn()", 0, crossed.turn());
        due("turn(), no comparers", 0, crossed.turn());
        due("undo()", 3, crossed.undo());
        LaneNets swapped = netOf(2, 3, 0, 1, 0, 0, 1, 1, 0, 1);
        due("turn()", 2, swapped.turn());
        dueComparer(swapped, 1, 0, 0, 1, 0);
        turnOfGates();
    }

    /** A GATE that is on moves its lanes as a COMPARER does, which the comparers behind it show. */
    private static void turnOfGates() {
        for (int kind = 0; kind < 5; kind += 4) {
            LaneNets x = netOf(3, 3, 0, 1, kind, 0, 1, 0, 0, 2, 1, 1, 2, kind, 0, 1);
            due("rounds()", 5, x.rounds());
            due("turn()", 4, x.turn());
            dueComparer(x, 0, 0, 0, 1, 0);
            dueComparer(x, 1, 0, 0, 2, 0);
            dueComparer(x, 2, 0, 1, 2, 0);
            dueComparer(x, 3, 0, 0, 2, 0);
        }
    }

    private static void mirror() {
        LaneNets x = netOf(5, 0, 0, 1, 1, 0, 4, 3, 2, 4, 4, 1, 3);
        x.comparer(4, 0, 2);
        x.turnSwitch(4, false);
        due("mirror()", 5, x.mirror());
        dueComparer(x, 0, 0, 3, 4, 0);
        dueComparer(x, 1, 1, 0, 4, 0);
        dueComparer(x, 2, 3, 0, 2, 0);
        dueComparer(x, 3, 4, 1, 3, 1);
        dueComparer(x, 4, 4, 2, 4, 0);
        due("undo()", 7, x.undo());
        dueComparer(x, 0, 0, 0, 1, 0);
        due("mirror(), no comparers", 0, new LaneNets().mirror());
    }

    private static void missing() {
        int[] fewest = {1, 3, 5};
        for (int n = 2; n <= 4; n++) {
            LaneNets x = new LaneNets();
            x.lanes(n);
            due("missing() of none " + n, fewest[n - 2], x.missing());
            x.comparer(3, 0, 1);
            due("missing() of a CROSSED one " + n, fewest[n - 2], x.missing());
        }
        LaneNets four = sortingFour();
        due("missing()", 0, four.missing());
        for (int left = 4; left >= 0; left--) {
            four.cut(left);
            due("missing() of " + left, 5 - left, four.missing());
        }
        LaneNets x = netOf(5, 0, 0, 1);
        due("missing()", LONG, x.missing());
        due("told(3)", 1, x.told(3));
        due("missing()", 1, netOf(2, 0, 0, 1, 1, 0, 1).missing());
        due("missing() of falling lanes", 2, netOf(4, 1, 0, 1, 1, 2, 3, 1, 0, 2, 1, 1, 3, 1, 1, 2).missing());
    }

    private static void next() {
        LaneNets x = new LaneNets();
        x.lanes(4);
        int[] row = {1, 23, 2, 13, 12};
        for (int k = 0; k < 5; k++) {
            due("next(" + k + ")", row[k], x.next(k));
        }
        due("next(5)", NONE, x.next(5));
        due("next(-1)", NONE, x.next(-1));
        due("told(3)", 2, x.told(3));
        x.lanes(3);
        due("next(0)", 1, x.next(0));
        due("next(1)", 2, x.next(1));
        due("next(2)", 12, x.next(2));
        due("next(3)", NONE, x.next(3));
        x.lanes(5);
        due("next(-1)", LONG, x.next(-1));
        due("next(0)", LONG, x.next(0));
        LaneNets sorting = netOf(2, 0, 0, 1);
        due("next(0)", NONE, sorting.next(0));
        sorting.comparer(3, 0, 1);
        due("next(0)", 1, sorting.next(0));
        due("told(1)", 2, sorting.told(1));
    }

    private static void bears() {
        due("bears(), no comparers", 0, new LaneNets().bears());
        due("bears()", 0, netOf(2, 0, 0, 1).bears());
        LaneNets x = netOf(2, 0, 0, 1, 0, 0, 1);
        due("bears()", 1, x.bears());
        x.comparer(1, 0, 1);
        due("bears()", 0, x.bears());
        x.change(2, 2);
        due("bears(), one STUCK", 1, x.bears());
        x.change(1, 2);
        due("bears(), two STUCK", 0, x.bears());
        LaneNets gate = netOf(2, 0, 0, 1, 4, 0, 1);
        due("bears()", 1, gate.bears());
        gate.turnSwitch(1, false);
        due("bears(), off", 0, gate.bears());
        LaneNets four = sortingFour();
        due("bears()", 0, four.bears());
        four.keep(0);
        four.follow(0);
        due("bears(), twice", 1, four.bears());
        due("told(1)", 10, four.told(1));
        due("told(3)", 0, four.told(3));
        LaneNets eight = bricks(8);
        due("bears()", 0, eight.bears());
    }

    private static void weak() {
        LaneNets x = sortingFour();
        for (int i = 0; i < 5; i++) {
            due("weak(" + i + ")", weakByHand(x, i), x.weak(i));
        }
        due("weak(0)", 1, x.weak(0));
        due("weak(4)", 5, x.weak(4));
        due("weak(5)", BEYOND, x.weak(5));
        due("weak(-1)", BEYOND, x.weak(-1));
        x.comparer(0, 0, 3);
        due("weak(5)", NONE, x.weak(5));
        dueComparer(x, 4, 0, 1, 2, 0);
        due("told(3)", 3, x.told(3));
        LaneNets late = bricks(8);
        late.comparer(3, 0, 1);
        late.comparer(3, 0, 1);
        due("weak(28), rows of seven ones alone", 127, late.weak(28));
        LaneNets crossed = netOf(2, 0, 0, 1, 3, 0, 1);
        due("weak(1)", NONE, crossed.weak(1));
        due("weak(0)", 2, crossed.weak(0));
    }

    private static int weakByHand(LaneNets x, int i) {
        x.change(i, 2);
        int least = x.fails(true);
        x.undo();
        return least;
    }

    private static void keep() {
        LaneNets x = netOf(3, 4, 0, 1, 1, 1, 2);
        x.turnSwitch(0, false);
        due("keep(4)", BEYOND, x.keep(4));
        due("keep(-1)", BEYOND, x.keep(-1));
        due("keep(0)", 2, x.keep(0));
        due("keep(3)", 2, x.keep(3));
        x.change(0, 3);
        x.lanes(4);
        due("keep(3)", 0, x.keep(3));
        due("bring(0)", 2, x.bring(0));
        dueComparer(x, 0, 4, 0, 1, 0);
        due("told(0)", 3, x.told(0));
        due("bring(3)", 0, x.bring(3));
        due("told(0)", 4, x.told(0));
        due("undo()", 7, x.undo());
    }

    private static void bring() {
        LaneNets x = netOf(3, 4, 0, 1, 1, 1, 2);
        due("bring(4)", BEYOND, x.bring(4));
        due("bring(-1)", BEYOND, x.bring(-1));
        due("bring(1)", NONE, x.bring(1));
        x.keep(1);
        x.lanes(8);
        x.comparer(0, 6, 7);
        due("bring(1)", 2, x.bring(1));
        due("told(0)", 3, x.told(0));
        dueComparer(x, 0, 4, 0, 1, 1);
        dueComparer(x, 1, 1, 1, 2, 0);
        x.change(0, 0);
        due("bring(1)", 2, x.bring(1));
        dueComparer(x, 0, 4, 0, 1, 1);
        due("undo()", 7, x.undo());
        dueComparer(x, 0, 0, 0, 1, 0);
        x.undo();
        due("undo()", 5, x.undo());
        dueComparer(x, 0, 0, 6, 7, 0);
        due("told(0)", 8, x.told(0));
    }

    private static void follow() {
        LaneNets x = netOf(3, 4, 0, 1, 1, 1, 2);
        due("follow(4)", BEYOND, x.follow(4));
        due("follow(-1)", BEYOND, x.follow(-1));
        due("follow(0)", NONE, x.follow(0));
        x.turnSwitch(0, false);
        x.keep(0);
        x.lanes(4);
        due("follow(0)", SIZE, x.follow(0));
        x.lanes(3);
        x.comparer(3, 0, 2);
        due("follow(0)", 3, x.follow(0));
        dueComparer(x, 0, 3, 0, 2, 0);
        dueComparer(x, 1, 4, 0, 1, 0);
        dueComparer(x, 2, 1, 1, 2, 0);
        due("undo()", 7, x.undo());
        due("told(1)", 1, x.told(1));
        followUntilFull();
    }

    private static void followUntilFull() {
        LaneNets x = netOf(2, 0, 0, 1, 1, 0, 1, 2, 0, 1, 3, 0, 1, 4, 0, 1);
        x.keep(2);
        x.follow(2);
        x.keep(3);
        x.follow(3);
        due("follow(3)", 30, x.follow(3));
        due("follow(3)", 40, x.follow(3));
        dueComparer(x, 39, 4, 0, 1, 1);
        due("follow(2)", FULL, x.follow(2));
        x.cut(36);
        due("follow(2)", FULL, x.follow(2));
        due("told(1)", 36, x.told(1));
        due("told(3)", 2, x.told(3));
        x.cut(35);
        due("follow(2)", 40, x.follow(2));
        x.lanes(3);
        x.keep(0);
        x.bring(3);
        due("follow(0), full or not", SIZE, x.follow(0));
    }

    private static void unlike() {
        LaneNets x = netOf(3, 0, 0, 1);
        due("unlike(4)", BEYOND, x.unlike(4));
        due("unlike(-1)", BEYOND, x.unlike(-1));
        due("unlike(0)", NONE, x.unlike(0));
        x.keep(0);
        due("unlike(0)", LONG, x.unlike(0));
        x.comparer(0, 0, 1);
        due("unlike(0)", LONG, x.unlike(0));
        x.comparer(0, 0, 2);
        due("unlike(0)", 3, x.unlike(0));
        x.lanes(2);
        due("unlike(0)", SIZE, x.unlike(0));
        due("told(3)", 6, x.told(3));
        LaneNets eight = netOf(8, 0, 0, 1);
        eight.keep(0);
        eight.comparer(1, 6, 7);
        due("unlike(0)", 128, eight.unlike(0));
        eight.change(1, 0);
        due("unlike(0)", 64, eight.unlike(0));
    }

    private static void tell() {
        LaneNets x = new LaneNets();
        for (int i = 1; i <= 80; i++) {
            due("tell", i, x.tell(i % 2 == 0 ? Integer.MAX_VALUE : Integer.MIN_VALUE));
        }
        due("tell(0)", FULL, x.tell(0));
        due("told(2)", 80, x.told(2));
        due("told(3)", 1, x.told(3));
        due("would()", BEYOND, x.would());
        due("told(2)", 0, x.told(2));
        due("tell(0)", 1, x.tell(0));
    }

    private static void would() {
        LaneNets x = netOf(3, 0, 0, 1);
        due("would(), none wait", 0, x.would());
        dueWould(x, 1, 0, 2, 1, 2);
        dueWould(x, 0, 1, 2, 0, 2);
        dueWould(x, SIZE, 9, 9, 9);
        dueWould(x, SIZE, 0);
        dueWould(x, BEYOND, 0, 2, 1, 3);
        dueWould(x, BEYOND, -1, 2);
        dueWould(x, BEYOND, 0, 3);
        dueWould(x, BEYOND, 1, 1);
        dueWould(x, BEYOND, 0, 1, 2, 1);
        due("told(1)", 1, x.told(1));
        due("told(3)", 7, x.told(3));
        due("undo()", 1, x.undo());
        due("would(), none wait", 1, netOf(2, 0, 0, 1).would());
        wouldOfMost();
    }

    private static void wouldOfMost() {
        LaneNets x = netOf(2);
        for (int i = 0; i < 40; i++) {
            x.comparer(3, 0, 1);
        }
        int[] numbers = new int[80];
        for (int i = 1; i < 80; i += 2) {
            numbers[i] = 1;
        }
        dueWould(x, 1, numbers);
        LaneNets eight = netOf(8, 0, 0, 7);
        due("would()", 0, eight.would());
        LaneNets bricks = bricks(8);
        int most = bricks.told(1);
        for (int i = 0; i < most; i++) {
            eight.tell(bricks.of(i, 1));
            eight.tell(bricks.of(i, 2));
        }
        due("would()", 1, eight.would());
    }

    private static void dueWould(LaneNets x, int want, int... numbers) {
        for (int i = 0; i < numbers.length; i++) {
            due("tell", i + 1, x.tell(numbers[i]));
        }
        due("would() of " + numbers.length, want, x.would());
        due("told(2)", 0, x.told(2));
    }

    private static void undo() {
        LaneNets x = new LaneNets();
        due("undo()", NONE, x.undo());
        x.lanes(4);
        for (int i = 1; i <= 30; i++) {
            x.comparer(0, 0, 1 + i % 3);
        }
        for (int more = 24; more >= 0; more--) {
            due("undo()", more, x.undo());
            due("told(1)", more + 5, x.told(1));
        }
        due("undo()", NONE, x.undo());
        due("told(1)", 5, x.told(1));
        due("told(0)", 4, x.told(0));
        due("told(3)", 2, x.told(3));
        undoOfEachAct();
        undoLeavesTheRest();
    }

    /** Each of the ten acts can be undone, also where it changes nothing; what is no such act, not. */
    private static void undoOfEachAct() {
        LaneNets x = new LaneNets();
        x.lanes(2);
        x.comparer(4, 0, 1);
        x.cut(1);
        x.change(0, 4);
        x.turnSwitch(0, true);
        x.drop();
        x.turn();
        x.mirror();
        x.keep(0);
        x.bring(0);
        x.lanes(2);
        x.keep(1);
        x.follow(1);
        x.crate(0, 1, 2);
        x.run(0);
        x.tell(0);
        x.tell(1);
        x.would();
        x.cut(9);
        due("undo()", 10, x.undo());
        due("undo()", 9, x.undo());
        due("told(1)", 1, x.told(1));
        x.undo();
        x.undo();
        due("of(0, 0), turned", 0, x.of(0, 0));
        due("undo()", 6, x.undo());
        due("of(0, 0), as before", 4, x.of(0, 0));
    }

    private static void undoLeavesTheRest() {
        LaneNets x = netOf(3, 0, 0, 1);
        x.keep(0);
        x.tell(7);
        x.crate(0, 4, 3);
        x.put(0, 0, 5);
        x.undo();
        x.undo();
        due("told(0)", 2, x.told(0));
        due("told(2)", 1, x.told(2));
        due("load(0, 0)", 5, x.load(0, 0));
        due("bring(0)", 1, x.bring(0));
        due("told(0)", 3, x.told(0));
        due("undo()", 0, x.undo());
    }

    private static void told() {
        LaneNets x = netOf(6, 0, 0, 5);
        x.tell(3);
        due("told(0)", 6, x.told(0));
        due("told(1)", 1, x.told(1));
        due("told(2)", 1, x.told(2));
        due("told(3)", 0, x.told(3));
        due("told(4)", BEYOND, x.told(4));
        due("told(-1)", BEYOND, x.told(-1));
        due("told(3)", 2, x.told(3));
        eachActCounts();
    }

    /** Every act that can answer a finding answers one here, and each is counted. */
    private static void eachActCounts() {
        LaneNets x = new LaneNets();
        x.lanes(8);
        long[] answers = {
            x.lanes(0), x.comparer(9, 0, 0), x.cut(1), x.change(0, 0), x.turnSwitch(0, true), x.as(0, 0),
            x.of(0, 0), x.crate(9, 0, 0), x.put(0, 0, 0), x.load(0, 0), x.copy(0, 0, 0, 0, 0), x.run(0),
            x.rises(0), x.order(0, 0, 0), x.out(256), x.merges(8), x.idle(0), x.missing(), x.next(0), x.weak(0),
            x.keep(9), x.bring(0), x.follow(0), x.unlike(0), x.tell(0), x.would(), x.told(9)
        };
        long found = 0;
        for (long answer : answers) {
            found += answer < 0 ? 1 : 0;
        }
        due("findings", answers.length - 1, found);
        due("told(3)", answers.length - 1, x.told(3));
        x.undo();
        x.undo();
        due("told(3)", answers.length, x.told(3));
        x.comparer(2, 0, 1);
        x.turn();
        due("told(3)", answers.length + 1, x.told(3));
        x.change(0, 0);
        x.fails(true);
        due("told(3)", answers.length + 2, x.told(3));
    }

    /** Forty comparers on eight lanes and twelve loads: every call at its largest. */
    private static void fullest() {
        LaneNets x = bricks(8);
        while (x.told(1) < 40) {
            x.comparer(4, 3, 4);
        }
        x.crate(5, 7, 12);
        for (int i = 0; i < 12; i++) {
            x.put(5, i, Double.doubleToLongBits(-i));
        }
        due("run(5)", 28, x.run(5));
        due("order(5, 0, 7)", 9, x.order(5, 0, 7));
        due("rises(5)", 0, x.rises(5));
        due("copy(5, 0, 5, 0, 12)", 12, x.copy(5, 0, 5, 0, 12));
        due("of(39, 3)", 20, x.of(39, 3));
        due("rounds()", 20, x.rounds());
        due("sorts()", 1, x.sorts());
        due("fails(false)", 0, x.fails(false));
        due("fails(true)", NONE, x.fails(true));
        due("merges(7)", 1, x.merges(7));
        due("out(255)", 255, x.out(255));
        due("out(127)", 254, x.out(127));
        due("idle(39)", 1, x.idle(39));
        due("bears()", 0, x.bears());
        due("weak(39)", NONE, x.weak(39));
        due("keep(3)", 40, x.keep(3));
        due("unlike(3)", LONG, x.unlike(3));
        due("mirror()", 40, x.mirror());
        due("would()", 1, x.would());
        due("turn()", 40, x.turn());
        due("unlike(3)", LONG, x.unlike(3));
        due("drop()", 12, x.drop());
        due("undo()", 24, x.undo());
        due("bring(3)", 40, x.bring(3));
        due("cut(40)", 0, x.cut(40));
        due("missing()", LONG, x.missing());
        LaneNets eightfold = sortingFour();
        eightfold.keep(0);
        while (eightfold.told(1) < 40) {
            eightfold.follow(0);
        }
        due("bears()", 1, eightfold.bears());
        due("missing()", 0, eightfold.missing());
    }

    private static void net() {
        CHECKS.about("promise 1");
        newObject();
        CHECKS.about("promise 2");
        lanes();
        CHECKS.about("promise 3");
        comparer();
        CHECKS.about("promise 4");
        cut();
        CHECKS.about("promise 5");
        change();
        CHECKS.about("promise 6");
        turnSwitch();
        CHECKS.about("promise 7");
        as();
        CHECKS.about("promise 8");
        of();
        CHECKS.about("promise 9");
        rounds();
    }

    private static void crates() {
        CHECKS.about("promise 10");
        crate();
        CHECKS.about("promise 11");
        put();
        CHECKS.about("promise 12");
        load();
        CHECKS.about("promise 13");
        copy();
        CHECKS.about("promise 14");
        run();
        CHECKS.about("promise 15");
        rises();
        CHECKS.about("promise 16");
        order();
    }

    private static void rows() {
        CHECKS.about("promise 17");
        out();
        CHECKS.about("promise 18");
        sorts();
        CHECKS.about("promise 19");
        fails();
        CHECKS.about("promise 20");
        merges();
        CHECKS.about("promise 21");
        idle();
        CHECKS.about("promise 22");
        drop();
        CHECKS.about("promise 23");
        turn();
        CHECKS.about("promise 24");
        mirror();
        CHECKS.about("promise 25");
        missing();
        CHECKS.about("promise 26");
        next();
        CHECKS.about("promise 27");
        bears();
        CHECKS.about("promise 28");
        weak();
    }

    private static void slots() {
        CHECKS.about("promise 29");
        keep();
        CHECKS.about("promise 30");
        bring();
        CHECKS.about("promise 31");
        follow();
        CHECKS.about("promise 32");
        unlike();
        CHECKS.about("promise 33");
        tell();
        CHECKS.about("promise 34");
        would();
        CHECKS.about("promise 35");
        undo();
        CHECKS.about("promise 36");
        told();
    }

    public static void main(String[] args) {
        net();
        crates();
        rows();
        slots();
        CHECKS.about("all at their most");
        fullest();
        CHECKS.end();
    }
}
