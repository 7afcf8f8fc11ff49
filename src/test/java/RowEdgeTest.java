/** The edges of promises 17 to 28: rows of noughts and ones, what is missing, what sticks. */
public final class RowEdgeTest {
    private static final int BEYOND = Edges.BEYOND;
    private static final int NONE = Edges.NONE;
    private static final int STICKS = Edges.STICKS;
    private static final int LONG = Edges.LONG;
    private static final int LEAST = Edges.LEAST;
    private static final int MOST = Edges.MOST;
    private static final Edges.Part NET = Edges.Part.NET;
    private static final Edges.Part UNDO = Edges.Part.UNDO;

    private static final Edges EDGES = new Edges();

    private static void due(String call, long want, long got) {
        EDGES.due(call, want, got);
    }

    private static void dueComparer(LaneNets x, int i, int kind, int a, int b, int on) {
        due("of(" + i + ", 0)", kind, x.of(i, 0));
        due("of(" + i + ", 1)", a, x.of(i, 1));
        due("of(" + i + ", 2)", b, x.of(i, 2));
        due("of(" + i + ", 4)", on, x.of(i, 4));
    }

    private static Edges.Scene sorting(int n) {
        return x -> Scenes.sorting(x, n);
    }

    private static Edges.Scene gatesOff(int count) {
        return x -> {
            Scenes.manyOf(4, count).set(x);
            for (int i = 0; i < count; i++) {
                x.turnSwitch(i, false);
            }
        };
    }

    public static void main(String[] args) {
        outTaken();
        outRefused();
        outOfKinds();
        sorts();
        failsOfNone();
        failsOfOneRow();
        fails();
        mergesTaken();
        mergesOfOneRow();
        mergesRefused();
        idle();
        idleOfOneRow();
        idleRefused();
        drop();
        dropLeavesOthers();
        turnTaken();
        turnMovesLanes();
        turnStartsAnew();
        turnSticks();
        mirror();
        missing();
        missingIsLong();
        next();
        nextIsFirst();
        nextRefused();
        bears();
        bearsOfForty();
        weak();
        weakRefused();
        EDGES.end();
    }

    private static void outTaken() {
        EDGES.sentence(17, "the number of the row that comes out for one");
        for (int n = 2; n <= 8; n++) {
            int last = (1 << n) - 1;
            EDGES.asked(Scenes.netOf(n), "out(0), no comparers", x -> x.out(0), 0);
            EDGES.asked(Scenes.netOf(n), "out(" + last + "), no comparers", x -> x.out(last), last);
            EDGES.asked(Scenes.netOf(n, 3, 0, n - 1), "the first alone", x -> x.out(1), 1 << (n - 1));
            EDGES.asked(Scenes.netOf(n, 3, 0, n - 1), "all but the first", x -> x.out(last - 1), last >> 1);
            LaneNets same = Edges.made(Scenes.netOf(n));
            for (int row = 0; row <= last; row++) {
                due("out(" + row + "), no comparers", row, same.out(row));
            }
            LaneNets sorted = Edges.made(sorting(n));
            for (int row = 0; row <= last; row++) {
                int ones = Integer.bitCount(row);
                due("out(" + row + ") of a net that sorts", last & ~((1 << (n - ones)) - 1), sorted.out(row));
            }
        }
    }

    private static void outRefused() {
        EDGES.sentence(17, "BEYOND: it is none");
        for (int n = 2; n <= 8; n++) {
            EDGES.refusedEach(Scenes.netOf(n, 3, 0, 1), "out(?) of " + n + " lanes", (x, v) -> x.out(v), BEYOND,
                -1, LEAST, 1 << n, (1 << n) + 1, MOST);
        }
    }

    private static void outOfKinds() {
        EDGES.term("COMPARER, BACKWARD, STUCK, CROSSED, GATE on rows");
        int[][] outs = {{0, 2, 2, 3}, {0, 1, 1, 3}, {0, 1, 2, 3}, {0, 2, 1, 3}, {0, 2, 2, 3}};
        for (int k = 0; k < 5; k++) {
            LaneNets x = Edges.made(Scenes.netOf(2, k, 0, 1));
            for (int row = 0; row < 4; row++) {
                due("out(" + row + ") of kind " + k, outs[k][row], x.out(row));
            }
        }
        LaneNets off = Edges.made(gatesOff(1));
        for (int row = 0; row < 4; row++) {
            due("out(" + row + ") of a GATE that is off", row, off.out(row));
        }
    }

    private static void sorts() {
        EDGES.sentence(18, "whether the net SORTS: 1, 0");
        for (int n = 2; n <= 8; n++) {
            EDGES.asked(Scenes.netOf(n), "sorts(), no comparers", x -> x.sorts(), 0);
            EDGES.asked(sorting(n), "sorts()", x -> x.sorts(), 1);
            for (int l = 0; l < n; l++) {
                int lanes = n;
                int lane = l;
                EDGES.asked(x -> Scenes.failsOnlyOneNought(x, lanes, lane), "sorts(), all but one 0 on " + l + " of " + n,
                    x -> x.sorts(), 0);
                EDGES.asked(x -> Scenes.failsOnlyOneOne(x, lanes, lane), "sorts(), all but one 1 on " + l + " of " + n,
                    x -> x.sorts(), 0);
            }
        }
        EDGES.asked(Scenes.netOf(2, 1, 0, 1), "sorts(), falling", x -> x.sorts(), 0);
        EDGES.asked(gatesOff(1), "sorts(), off", x -> x.sorts(), 0);
        EDGES.asked(Scenes.netOf(2, 4, 0, 1), "sorts(), on", x -> x.sorts(), 1);
        EDGES.asked(Scenes.manyOf(0, 40), "sorts() of 40", x -> x.sorts(), 1);
    }

    private static void failsOfNone() {
        EDGES.sentence(19, "how many rows come out not rising: none");
        for (int n = 2; n <= 8; n++) {
            EDGES.asked(sorting(n), "fails(false)", x -> x.fails(false), 0);
        }
        EDGES.sentence(19, "NONE (of first): there is none");
        for (int n = 2; n <= 8; n++) {
            EDGES.refused(sorting(n), "fails(true)", x -> x.fails(true), NONE);
        }
    }

    private static void failsOfOneRow() {
        EDGES.sentence(19, "first: the least number of such a row instead");
        for (int n = 2; n <= 8; n++) {
            for (int l = 0; l < n; l++) {
                int lanes = n;
                int lane = l;
                Edges.Scene nought = x -> Scenes.failsOnlyOneNought(x, lanes, lane);
                Edges.Scene one = x -> Scenes.failsOnlyOneOne(x, lanes, lane);
                int all = (1 << n) - 1;
                EDGES.asked(nought, "fails(true), 0 on " + l, x -> x.fails(true), all & ~(1 << l));
                EDGES.asked(nought, "fails(false), 0 on " + l, x -> x.fails(false), 1);
                EDGES.asked(one, "fails(true), 1 on " + l, x -> x.fails(true), 1 << l);
                EDGES.asked(one, "fails(false), 1 on " + l, x -> x.fails(false), 1);
            }
        }
    }

    private static void fails() {
        EDGES.sentence(19, "how many rows come out not rising; first: the least number");
        for (int n = 2; n <= 8; n++) {
            int rows = 1 << n;
            EDGES.asked(Scenes.netOf(n), "fails(false), no comparers", x -> x.fails(false), rows - n - 1);
            EDGES.asked(Scenes.netOf(n), "fails(true), no comparers", x -> x.fails(true), 1);
        }
        EDGES.sentence(19, "the least, not one that is only the first of a kind: rows 127 to 254");
        Edges.Scene sevenOnes = x -> {
            Scenes.sorting(x, 8);
            x.comparer(3, 0, 1);
        };
        EDGES.asked(sevenOnes, "fails(true)", x -> x.fails(true), 127);
        EDGES.asked(sevenOnes, "fails(false)", x -> x.fails(false), 8);
    }

    private static void mergesTaken() {
        EDGES.sentence(20, "whether all rows come out rising of which the first k lanes and the others each are");
        for (int n = 2; n <= 8; n++) {
            int last = n - 1;
            EDGES.asked(Scenes.netOf(n), "merges(1), no comparers", x -> x.merges(1), 0);
            EDGES.asked(Scenes.netOf(n), "merges(n - 1), no comparers", x -> x.merges(last), 0);
            EDGES.asked(sorting(n), "merges(1)", x -> x.merges(1), 1);
            EDGES.asked(sorting(n), "merges(n - 1)", x -> x.merges(last), 1);
            Edges.Scene up = x -> {
                x.lanes(last + 1);
                for (int a = 0; a < last; a++) {
                    x.comparer(0, a, a + 1);
                }
            };
            EDGES.asked(up, "merges(1) of one that goes up", x -> x.merges(1), 1);
            EDGES.asked(up, "merges(n - 1) of one that goes up", x -> x.merges(last), n == 2 ? 1 : 0);
        }
    }

    /** Of a net that fails one row alone it is that row which tells whether the net merges. */
    private static void mergesOfOneRow() {
        EDGES.sentence(20, "the first k lanes and the others each are");
        for (int n = 2; n <= 8; n++) {
            for (int l = 0; l < n; l++) {
                for (int k = 1; k < n; k++) {
                    int lanes = n;
                    int lane = l;
                    LaneNets nought = Edges.made(x -> Scenes.failsOnlyOneNought(x, lanes, lane));
                    LaneNets one = Edges.made(x -> Scenes.failsOnlyOneOne(x, lanes, lane));
                    String text = "merges(" + k + ") of " + n + " lanes, all but one row, lane " + l;
                    due(text + ", 0", l == 0 || l == k ? 0 : 1, nought.merges(k));
                    due(text + ", 1", l == k - 1 || l == n - 1 ? 0 : 1, one.merges(k));
                }
            }
        }
    }

    private static void mergesRefused() {
        EDGES.sentence(20, "BEYOND: k is not 1 to n - 1");
        for (int n = 2; n <= 8; n++) {
            EDGES.refusedEach(sorting(n), "merges(?) of " + n + " lanes", (x, v) -> x.merges(v), BEYOND,
                0, -1, LEAST, n, n + 1, MOST);
        }
    }

    private static void idle() {
        EDGES.sentence(21, "whether a comparer leaves both its loads where they are, whatever row comes in");
        int[] first = {0, 0, 1, 0, 0};
        int[] behindComparer = {1, 0, 1, 0, 1};
        int[] behindBackward = {0, 1, 1, 0, 0};
        for (int k = 0; k < 5; k++) {
            for (int n = 2; n <= 8; n++) {
                int last = n - 1;
                EDGES.asked(Scenes.netOf(n, k, 0, last), "idle(0) of kind " + k, x -> x.idle(0), first[k]);
                EDGES.asked(Scenes.netOf(n, 0, 0, last, k, 0, last), "idle(1) of kind " + k, x -> x.idle(1),
                    behindComparer[k]);
                EDGES.asked(Scenes.netOf(n, 1, 0, last, k, 0, last), "idle(1) of kind " + k, x -> x.idle(1),
                    behindBackward[k]);
            }
        }
        EDGES.asked(gatesOff(1), "idle(0) of a GATE that is off", x -> x.idle(0), 1);
        EDGES.asked(Scenes.manyOf(0, 40), "idle(0)", x -> x.idle(0), 0);
        EDGES.asked(Scenes.manyOf(0, 40), "idle(39)", x -> x.idle(39), 1);
        EDGES.asked(Scenes.manyOf(3, 40), "idle(39), CROSSED", x -> x.idle(39), 0);
    }

    /** Behind a net that fails one row alone a comparer does something for that row alone. */
    private static void idleOfOneRow() {
        EDGES.sentence(21, "whatever row: also if it is one row alone for which it does not");
        for (int n = 2; n <= 8; n++) {
            for (int l = 0; l < n; l++) {
                int lanes = n;
                int lane = l;
                LaneNets nought = Edges.made(x -> Scenes.failsOnlyOneNought(x, lanes, lane));
                int at = nought.comparer(0, 0, 1) - 1;
                due("idle, 0 on " + l + " of " + n, 0, nought.idle(at));
                due("once more", 1, nought.idle(nought.comparer(0, 0, 1) - 1));
                LaneNets one = Edges.made(x -> Scenes.failsOnlyOneOne(x, lanes, lane));
                at = one.comparer(0, n - 2, n - 1) - 1;
                due("idle, 1 on " + l + " of " + n, 0, one.idle(at));
                due("once more", 1, one.idle(one.comparer(0, n - 2, n - 1) - 1));
            }
        }
    }

    private static void idleRefused() {
        EDGES.sentence(21, "BEYOND: no such comparer");
        EDGES.refusedEach(Scenes::fresh, "idle(?)", (x, v) -> x.idle(v), BEYOND, 0, -1, LEAST, MOST);
        EDGES.refusedEach(Scenes::rich, "idle(?)", (x, v) -> x.idle(v), BEYOND, 6, -1, LEAST, MOST);
        EDGES.refusedEach(Scenes::full, "idle(?)", (x, v) -> x.idle(v), BEYOND, 40, 64, -1, LEAST, MOST);
    }

    private static void drop() {
        EDGES.sentence(22, "all idle comparers are gone: how many there were");
        EDGES.done(Scenes::fresh, "drop(), no comparers", x -> x.drop(), 0, UNDO);
        EDGES.done(sorting(8), "drop(), none idle", x -> x.drop(), 0, UNDO);
        EDGES.done(Scenes.manyOf(3, 40), "drop() of CROSSED", x -> x.drop(), 0, UNDO);
        EDGES.done(Scenes.manyOf(2, 40), "drop() of STUCK", x -> x.drop(), 40, NET, UNDO);
        EDGES.done(Scenes.manyOf(0, 40), "drop(), all but the first", x -> x.drop(), 39, NET, UNDO);
        EDGES.done(gatesOff(3), "drop() of GATES that are off", x -> x.drop(), 3, NET, UNDO);
        LaneNets x = Edges.made(Scenes.manyOf(2, 40));
        x.drop();
        due("told(1)", 0, x.told(1));
        due("drop() once more", 0, x.drop());
        due("undo()", 24, x.undo());
        due("undo()", 23, x.undo());
        due("told(1)", 40, x.told(1));
    }

    private static void dropLeavesOthers() {
        EDGES.sentence(22, "those that are not idle stay as they are, in their order");
        LaneNets x = Edges.made(Scenes.netOf(4, 2, 0, 1, 4, 0, 1, 0, 0, 1, 1, 2, 3, 1, 2, 3, 3, 0, 2, 4, 1, 3, 2, 2, 3));
        due("drop()", 4, x.drop());
        due("told(1)", 4, x.told(1));
        due("told(0)", 4, x.told(0));
        dueComparer(x, 0, 4, 0, 1, 1);
        dueComparer(x, 1, 1, 2, 3, 0);
        dueComparer(x, 2, 3, 0, 2, 0);
        dueComparer(x, 3, 4, 1, 3, 1);
        EDGES.sentence(22, "the net does as before");
        LaneNets rich = Edges.made(Scenes::rich);
        rich.drop();
        due("unlike(0)", LONG, rich.unlike(0));
        LaneNets full = Edges.made(Scenes::full);
        full.drop();
        due("unlike(0)", LONG, full.unlike(0));
    }

    private static void turnTaken() {
        EDGES.sentence(23, "how many comparers there are then");
        EDGES.done(Scenes::fresh, "turn(), no comparers", x -> x.turn(), 0, UNDO);
        EDGES.done(Scenes.manyOf(0, 40), "turn() of COMPARERS", x -> x.turn(), 40, UNDO);
        EDGES.done(sorting(8), "turn() of COMPARERS", x -> x.turn(), 28, UNDO);
        EDGES.done(Scenes.manyOf(3, 40), "turn() of CROSSED", x -> x.turn(), 0, NET, UNDO);
        EDGES.done(Scenes.manyOf(4, 40), "turn() of GATES", x -> x.turn(), 40, NET, UNDO);
        EDGES.done(Scenes.manyOf(1, 40), "turn() of BACKWARD ones", x -> x.turn(), 40, NET, UNDO);
        for (int k = 0; k < 5; k += k == 1 ? 3 : 1) {
            LaneNets x = Edges.made(Scenes.netOf(8, k, 0, 7, k, 3, 4));
            x.turn();
            dueComparer(x, 0, 0, 0, 7, 0);
            dueComparer(x, 1, 0, 3, 4, 0);
        }
    }

    /** A comparer on 0 and 2 behind one or two on 0 and 1 shows where lane 0 went. */
    private static void turnMovesLanes() {
        EDGES.sentence(23, "if m(a) is above m(b) they change; a BACKWARD one: if m(b) is above m(a)");
        int[] behindOne = {0, 1, -1, 1, 0};
        int[] behindCrossed = {0, 1, -1, 0, 0};
        for (int k = 0; k < 5; k++) {
            if (k != 2) {
                dueTurned("kind " + k, Scenes.netOf(3, k, 0, 1, 0, 0, 2), behindOne[k]);
                dueTurned("CROSSED, then kind " + k, Scenes.netOf(3, 3, 0, 1, k, 0, 1, 0, 0, 2), behindCrossed[k]);
            }
        }
        EDGES.sentence(23, "in which lane m(x) has what lane x of the old one has");
        Edges.Scene scene = Scenes.netOf(4, 1, 0, 3, 3, 1, 2, 4, 0, 1, 1, 1, 3, 3, 0, 2, 0, 2, 3, 1, 0, 1);
        LaneNets old = Edges.made(scene);
        LaneNets x = Edges.made(scene);
        due("turn()", 5, x.turn());
        int[] outs = new int[16];
        int[] turned = new int[16];
        for (int row = 0; row < 16; row++) {
            outs[row] = old.out(row);
            turned[row] = x.out(row);
        }
        int alike = 0;
        for (int m = 0; m < 256; m++) {
            alike += alikeBy(m, outs, turned) ? 1 : 0;
        }
        due("ways to see each row of the one in the other", 1, alike);
    }

    private static void turnStartsAnew() {
        EDGES.sentence(23, "m(x) is x at first: whatever was asked or turned ahead of it");
        LaneNets x = Edges.made(Scenes.netOf(8, 0, 0, 7, 0, 1, 6, 0, 2, 5, 0, 3, 4));
        due("rounds()", 1, x.rounds());
        due("turn() behind rounds()", 4, x.turn());
        for (int a = 0; a < 4; a++) {
            dueComparer(x, a, 0, a, 7 - a, 0);
        }
        Scenes.comparers(x, 3, 0, 7, 3, 1, 6, 3, 2, 5, 3, 3, 4);
        due("of(7, 3)", 2, x.of(7, 3));
        due("turn() behind of()", 4, x.turn());
        due("turn() behind turn()", 4, x.turn());
        for (int a = 0; a < 4; a++) {
            dueComparer(x, a, 0, a, 7 - a, 0);
        }
    }

    private static void dueTurned(String text, Edges.Scene scene, int lane) {
        LaneNets x = Edges.made(scene);
        int last = x.turn() - 1;
        dueComparer(x, last, 0, lane, 2, 0);
        for (int i = 0; i <= last; i++) {
            due(text + ", of(" + i + ", 0)", 0, x.of(i, 0));
        }
    }

    /** Whether each row is the other net's with lane x on lane m(x), two bits of m for each x. */
    private static boolean alikeBy(int m, int[] outs, int[] turned) {
        for (int row = 0; row < outs.length; row++) {
            int moved = 0;
            for (int lane = 0; lane < 4; lane++) {
                moved |= (outs[row] >> lane & 1) << (m >> 2 * lane & 3);
            }
            if (moved != turned[row]) {
                return false;
            }
        }
        return true;
    }

    private static void turnSticks() {
        EDGES.sentence(23, "STICKS: one is STUCK, or a GATE that is off");
        EDGES.refused(Scenes.netOf(2, 2, 0, 1), "STUCK alone", x -> x.turn(), STICKS);
        EDGES.refused(Scenes.netOf(3, 2, 0, 1, 1, 0, 2, 3, 1, 2), "the first STUCK", x -> x.turn(), STICKS);
        EDGES.refused(Scenes.netOf(3, 1, 0, 2, 3, 1, 2, 2, 0, 1), "the last STUCK", x -> x.turn(), STICKS);
        EDGES.refused(gatesOff(1), "a GATE that is off", x -> x.turn(), STICKS);
        EDGES.refused(Scenes::rich, "both", x -> x.turn(), STICKS);
        EDGES.refused(Scenes::full, "of 40", x -> x.turn(), STICKS);
        Edges.Scene lastOf40 = x -> {
            Scenes.manyOf(1, 39).set(x);
            x.comparer(4, 0, 1);
            x.turnSwitch(39, false);
        };
        EDGES.refused(lastOf40, "the last of 40 off", x -> x.turn(), STICKS);
        LaneNets x = Edges.made(lastOf40);
        x.turnSwitch(39, true);
        due("turn(), on again", 40, x.turn());
    }

    private static void mirror() {
        EDGES.sentence(24, "a comparer on a and b is one of its kind on n - 1 - b and n - 1 - a");
        EDGES.done(Scenes::fresh, "mirror(), no comparers", x -> x.mirror(), 0, UNDO);
        EDGES.done(Scenes.manyOf(1, 40), "mirror() of 40", x -> x.mirror(), 40, UNDO);
        EDGES.done(Scenes::full, "mirror() of 40", x -> x.mirror(), 40, NET, UNDO);
        for (int n = 2; n <= 8; n++) {
            for (int k = 0; k < 5; k++) {
                LaneNets x = Edges.made(Scenes.netOf(n, k, 0, 1, k, 0, n - 1, k, n - 2, n - 1));
                due("mirror()", 3, x.mirror());
                dueComparer(x, 0, k, n - 2, n - 1, k == 4 ? 1 : 0);
                dueComparer(x, 1, k, 0, n - 1, k == 4 ? 1 : 0);
                dueComparer(x, 2, k, 0, 1, k == 4 ? 1 : 0);
                due("told(0)", n, x.told(0));
            }
        }
        EDGES.done(Scenes::rich, "mirror() twice", x -> x.mirror() + x.mirror(), 12, UNDO);
        EDGES.sentence(24, "a GATE that is off stays off");
        LaneNets x = Edges.made(Scenes::rich);
        x.mirror();
        dueComparer(x, 5, 4, 0, 3, 0);
        dueComparer(x, 4, 4, 1, 2, 1);
    }

    private static void missing() {
        EDGES.sentence(25, "the fewest COMPARERS that must come behind the net so that it sorts");
        int[] most = {1, 3, 5};
        for (int n = 2; n <= 4; n++) {
            int lanes = n;
            int fewest = most[n - 2];
            EDGES.asked(Scenes.netOf(n), "missing(), no comparers", x -> x.missing(), fewest);
            EDGES.asked(Scenes.netOf(n, 2, 0, 1), "missing(), STUCK", x -> x.missing(), fewest);
            EDGES.asked(Scenes.netOf(n, 3, 0, 1), "missing(), CROSSED", x -> x.missing(), fewest);
            EDGES.asked(sorting(n), "missing(), sorts", x -> x.missing(), 0);
            Edges.Scene all = x -> {
                Scenes.sorting(x, lanes);
                x.comparer(3, 0, 1);
            };
            EDGES.asked(all, "missing(), one is", x -> x.missing(), 1);
        }
        EDGES.asked(Scenes.manyOf(0, 40), "missing() of 40 that sort", x -> x.missing(), 0);
        EDGES.asked(Scenes.manyOf(1, 40), "missing() of 40 that don't", x -> x.missing(), 1);
        EDGES.asked(gatesOff(1), "missing(), a GATE that is off", x -> x.missing(), 1);
        EDGES.asked(Scenes.netOf(4, 0, 0, 1, 0, 2, 3, 0, 0, 2, 0, 1, 3), "the last one of five", x -> x.missing(), 1);
    }

    private static void missingIsLong() {
        EDGES.sentence(25, "LONG: n is above 4");
        for (int n = 5; n <= 8; n++) {
            EDGES.refused(Scenes.netOf(n), "missing(), no comparers", x -> x.missing(), LONG);
            EDGES.refused(sorting(n), "missing(), sorts", x -> x.missing(), LONG);
        }
        EDGES.refused(Scenes::full, "missing()", x -> x.missing(), LONG);
        LaneNets x = Edges.made(Scenes.netOf(5));
        x.lanes(4);
        due("missing() behind lanes(4)", 5, x.missing());
        x.lanes(5);
        due("missing() behind lanes(5)", LONG, x.missing());
    }

    private static void next() {
        EDGES.sentence(26, "lanes of its k-th one (from 0), 10 a and b");
        int[][] rows = {{1}, {1, 2, 12}, {1, 23, 2, 13, 12}};
        for (int n = 2; n <= 4; n++) {
            int[] row = rows[n - 2];
            for (int i = 0; i < row.length; i++) {
                int k = i;
                EDGES.asked(Scenes.netOf(n), "next(" + k + ") of " + n, x -> x.next(k), row[k]);
            }
        }
        EDGES.sentence(26, "of the net as it is at the time");
        LaneNets x = Edges.made(Scenes.netOf(4));
        due("next(4)", 12, x.next(4));
        x.comparer(0, 0, 1);
        due("next(0)", 23, x.next(0));
        due("next(4)", NONE, x.next(4));
        x.undo();
        due("next(4)", 12, x.next(4));
        x.lanes(2);
        due("next(0)", 1, x.next(0));
        due("next(1)", NONE, x.next(1));
    }

    /** Held against all rows of so many COMPARERS, in the document's order, by would(). */
    private static void nextIsFirst() {
        EDGES.sentence(26, "of the rows that make it sort the first (by the lanes of the first one, a then b)");
        for (int k = 0; k < 5; k++) {
            for (int m = 0; m < 5; m++) {
                dueNextIsFirst(Scenes.netOf(3, k, 0, 2, m, 0, 1));
                dueNextIsFirst(Scenes.netOf(4, 0, 0, 1, 0, 2, 3, k, 0, 2, m, 1, 3));
                dueNextIsFirst(Scenes.netOf(4, 0, 0, 3, 0, 1, 2, 0, 0, 1, k, 2, 3, m, 1, 2));
            }
        }
        dueNextIsFirst(Scenes.netOf(4, 0, 0, 1));
        dueNextIsFirst(Scenes.netOf(4, 0, 0, 1, 3, 0, 3));
    }

    private static void dueNextIsFirst(Edges.Scene scene) {
        LaneNets x = Edges.made(scene);
        int fewest = x.missing();
        int n = x.told(0);
        int[] pairs = new int[n * (n - 1) / 2];
        int found = 0;
        for (int a = 0; a < n; a++) {
            for (int b = a + 1; b < n; b++) {
                pairs[found++] = 10 * a + b;
            }
        }
        for (int length = 0; length <= fewest; length++) {
            int[] row = first(scene, pairs, new int[length], 0);
            due("a row of " + length + " of " + fewest, length == fewest ? 1 : 0, row == null ? 0 : 1);
            for (int k = 0; row != null && k < length; k++) {
                due("next(" + k + ") of " + fewest, row[k], x.next(k));
            }
        }
        due("next(" + fewest + ") of " + fewest, NONE, x.next(fewest));
    }

    private static int[] first(Edges.Scene scene, int[] pairs, int[] row, int at) {
        if (at == row.length) {
            return wouldSort(scene, row) ? row : null;
        }
        for (int pair : pairs) {
            row[at] = pair;
            if (first(scene, pairs, row, at + 1) != null) {
                return row;
            }
        }
        return null;
    }

    private static boolean wouldSort(Edges.Scene scene, int[] row) {
        LaneNets x = Edges.made(scene);
        for (int pair : row) {
            x.tell(pair / 10);
            x.tell(pair % 10);
        }
        return x.would() == 1;
    }

    private static void nextRefused() {
        EDGES.sentence(26, "NONE: there is none such");
        int[] most = {1, 3, 5};
        for (int n = 2; n <= 4; n++) {
            EDGES.refusedEach(Scenes.netOf(n), "next(?) of " + n, (x, v) -> x.next(v), NONE,
                most[n - 2], most[n - 2] + 1, MOST, -1, LEAST);
            EDGES.refusedEach(sorting(n), "next(?) of one that sorts", (x, v) -> x.next(v), NONE, 0, 4, 5, -1, LEAST, MOST);
        }
        EDGES.sentence(26, "LONG, ahead of NONE");
        for (int n = 5; n <= 8; n++) {
            EDGES.refusedEach(Scenes.netOf(n), "next(?) of " + n, (x, v) -> x.next(v), LONG, 0, -1, LEAST, 99, MOST);
            EDGES.refusedEach(sorting(n), "next(?) of " + n, (x, v) -> x.next(v), LONG, 0, -1);
        }
    }

    private static void bears() {
        EDGES.sentence(27, "of a net without comparers whether it sorts");
        for (int n = 2; n <= 8; n++) {
            EDGES.asked(Scenes.netOf(n), "bears(), no comparers", x -> x.bears(), 0);
        }
        EDGES.sentence(27, "whether it sorts, whichever one of its comparers is made STUCK: 1, 0");
        for (int n = 2; n <= 8; n++) {
            EDGES.asked(sorting(n), "bears()", x -> x.bears(), 0);
        }
        for (int n = 2; n <= 4; n++) {
            int lanes = n;
            Edges.Scene twice = x -> {
                Scenes.sorting(x, lanes);
                x.keep(0);
                x.follow(0);
            };
            EDGES.asked(twice, "bears(), all twice", x -> x.bears(), 1);
        }
        EDGES.asked(Scenes.netOf(2, 0, 0, 1), "one", x -> x.bears(), 0);
        EDGES.asked(Scenes.netOf(2, 0, 0, 1, 0, 0, 1), "two", x -> x.bears(), 1);
        EDGES.asked(Scenes.netOf(2, 0, 0, 1, 2, 0, 1), "two, one STUCK", x -> x.bears(), 0);
        EDGES.asked(Scenes.netOf(2, 0, 0, 1, 4, 0, 1), "two, one a GATE", x -> x.bears(), 1);
        EDGES.asked(gatesOff(2), "GATES that are off", x -> x.bears(), 0);
        EDGES.asked(Scenes.netOf(2, 3, 0, 1, 0, 0, 1), "the last must not stick", x -> x.bears(), 0);
        EDGES.asked(Scenes.netOf(2, 0, 0, 1, 3, 0, 1), "sorts if the last one sticks alone", x -> x.bears(), 0);
    }

    private static void bearsOfForty() {
        EDGES.sentence(27, "whichever one: the first, or the last of 40");
        EDGES.asked(Scenes.manyOf(0, 40), "all", x -> x.bears(), 1);
        Edges.Scene first = x -> {
            Scenes.net(x, 3, 0, 0, 1);
            while (x.told(1) < 37) {
                x.comparer(0, 0, 2);
            }
            Scenes.comparers(x, 0, 1, 2, 0, 0, 1, 0, 1, 2);
        };
        LaneNets weak = Edges.made(first);
        for (int i = 0; i < 40; i++) {
            due("weak(" + i + ")", i == 0 || i >= 37 ? weakByHand(first, i) : NONE, weak.weak(i));
        }
        EDGES.asked(x -> lastOfForty(x, 0), "the last one is weak", x -> x.bears(), 0);
        EDGES.asked(x -> lastOfForty(x, 2), "the last one is STUCK", x -> x.bears(), 0);
    }

    private static void lastOfForty(LaneNets x, int kind) {
        for (int i = 0; i < 38; i++) {
            x.comparer(1, 0, 1);
        }
        Scenes.comparers(x, 2, 0, 1, kind, 0, 1);
    }

    private static int weakByHand(Edges.Scene scene, int i) {
        LaneNets x = Edges.made(scene);
        x.change(i, 2);
        return x.fails(true);
    }

    private static void weak() {
        EDGES.sentence(28, "the least number of a row that comes out not rising when comparer i is made STUCK");
        for (int n = 2; n <= 8; n++) {
            for (int l = 0; l < n; l++) {
                int lanes = n;
                int lane = l;
                Edges.Scene nought = x -> {
                    Scenes.failsOnlyOneNought(x, lanes, lane);
                    x.comparer(0, 0, 1);
                };
                Edges.Scene one = x -> {
                    Scenes.failsOnlyOneOne(x, lanes, lane);
                    x.comparer(0, lanes - 2, lanes - 1);
                };
                int all = (1 << n) - 1;
                EDGES.asked(nought, "0 on " + l + " of " + n, x -> x.weak(x.told(1) - 1), all & ~(1 << l));
                EDGES.asked(one, "1 on " + l + " of " + n, x -> x.weak(x.told(1) - 1), 1 << l);
            }
        }
        EDGES.asked(x -> lastOfForty(x, 0), "weak(39)", x -> x.weak(39), 1);
        EDGES.asked(Scenes.netOf(2, 1, 0, 1), "weak(0) of one", x -> x.weak(0), 1);
        for (int i = 0; i < 40; i += 13) {
            int number = i;
            EDGES.asked(Scenes::full, "weak(" + i + ")", x -> x.weak(number), weakByHand(Scenes::full, i));
        }
    }

    private static void weakRefused() {
        EDGES.sentence(28, "NONE: there is none");
        EDGES.refused(Scenes.manyOf(0, 2), "weak(0)", x -> x.weak(0), NONE);
        EDGES.refused(Scenes.manyOf(0, 40), "weak(39)", x -> x.weak(39), NONE);
        EDGES.refused(Scenes.netOf(2, 0, 0, 1, 3, 0, 1), "a net that only sorts so", x -> x.weak(1), NONE);
        Edges.Scene idle = x -> {
            Scenes.sorting(x, 8);
            x.comparer(0, 0, 7);
        };
        EDGES.refused(idle, "weak(28)", x -> x.weak(28), NONE);
        EDGES.sentence(28, "BEYOND: no such comparer, ahead of NONE");
        EDGES.refusedEach(Scenes::fresh, "weak(?)", (x, v) -> x.weak(v), BEYOND, 0, -1, LEAST, MOST);
        EDGES.refusedEach(Scenes::rich, "weak(?)", (x, v) -> x.weak(v), BEYOND, 6, -1, LEAST, MOST);
        EDGES.refusedEach(Scenes::full, "weak(?)", (x, v) -> x.weak(v), BEYOND, 40, -1, LEAST, MOST);
        EDGES.refusedEach(sorting(8), "weak(?) of one that sorts", (x, v) -> x.weak(v), BEYOND, 28, -1, LEAST, MOST);
    }
}
