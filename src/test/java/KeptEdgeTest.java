import java.util.ArrayList;
import java.util.List;

/** The edges of promises 29 to 36: nets that are kept, numbers that wait, what is undone and told. */
public final class KeptEdgeTest {
    private static final int BEYOND = Edges.BEYOND;
    private static final int SIZE = Edges.SIZE;
    private static final int FULL = Edges.FULL;
    private static final int NONE = Edges.NONE;
    private static final int LONG = Edges.LONG;
    private static final int LEAST = Edges.LEAST;
    private static final int MOST = Edges.MOST;
    private static final Edges.Part NET = Edges.Part.NET;
    private static final Edges.Part UNDO = Edges.Part.UNDO;
    private static final Edges.Part SLOTS = Edges.Part.SLOTS;
    private static final Edges.Part WAITING = Edges.Part.WAITING;

    private static final Edges EDGES = new Edges();

    private static void due(String call, long want, long got) {
        EDGES.due(call, want, got);
    }

    private static void dueComparer(LaneNets x, int i, int kind, int a, int b, int on) {
        due("of(" + i + ", 0)", kind, x.of(i, 0));
        due("of(" + i + ", 1)", a, x.of(i, 1));
        due("of(" + i + ", 2)", b, x.of(i, 2));
        due("of(" + i + ", 4)", on, x.of(i, 4));
    }

    public static void main(String[] args) {
        keepTaken();
        keepIsApart();
        keepRefused();
        bringTaken();
        bringRefused();
        followTaken();
        followFull();
        followRefused();
        unlikeTaken();
        unlikeRefused();
        tell();
        wouldTaken();
        wouldOfMost();
        wouldSize();
        wouldBeyond();
        wouldOfLanes();
        undoOfTwentyFive();
        undoAndOn();
        undoOfEachAct();
        undoOfNoOther();
        undoNone();
        told();
        toldRefused();
        findingsEver();
        EDGES.end();
    }

    private static void keepTaken() {
        EDGES.sentence(29, "the net is kept in a slot (0 to 3): how many comparers");
        for (int s = 0; s < 4; s++) {
            int slot = s;
            EDGES.done(Scenes::fresh, "keep(" + s + "), no comparers", x -> x.keep(slot), 0, SLOTS);
            EDGES.done(Scenes.manyOf(0, 40), "keep(" + s + ") of 40", x -> x.keep(slot), 40, SLOTS);
            EDGES.done(Scenes::full, "keep(" + s + ") once more", x -> x.keep(slot), 40);
            LaneNets x = Edges.made(Scenes::fresh);
            x.keep(s);
            for (int other = 0; other < 4; other++) {
                due("bring(" + other + ") behind keep(" + s + ")", other == s ? 0 : NONE, x.bring(other));
            }
        }
    }

    private static void keepIsApart() {
        EDGES.sentence(29, "what is kept stays as it was, and gives way to what is kept there next");
        LaneNets x = Edges.made(Scenes::rich);
        x.change(0, 3);
        x.turnSwitch(5, true);
        x.mirror();
        x.cut(2);
        x.lanes(8);
        due("bring(0)", 6, x.bring(0));
        due("told(0)", 4, x.told(0));
        dueComparer(x, 0, 0, 0, 1, 0);
        dueComparer(x, 5, 4, 0, 3, 0);
        x.cut(1);
        due("keep(0)", 1, x.keep(0));
        x.lanes(2);
        due("bring(0)", 1, x.bring(0));
        due("of(1, 0)", BEYOND, x.of(1, 0));
        due("bring(2)", 2, x.bring(2));
        due("bring(1)", 0, x.bring(1));
    }

    private static void keepRefused() {
        EDGES.sentence(29, "BEYOND");
        EDGES.refusedEach(Scenes::fresh, "keep(?)", (x, v) -> x.keep(v), BEYOND, -1, LEAST, 4, MOST);
        EDGES.refusedEach(Scenes::rich, "keep(?)", (x, v) -> x.keep(v), BEYOND, -1, LEAST, 4, 5, MOST);
        EDGES.refusedEach(Scenes::full, "keep(?)", (x, v) -> x.keep(v), BEYOND, -1, LEAST, 4, MOST);
    }

    private static void bringTaken() {
        EDGES.sentence(30, "the net is that of a slot: how many comparers");
        EDGES.done(Scenes::rich, "bring(0), the same", x -> x.bring(0), 6, UNDO);
        EDGES.done(Scenes::rich, "bring(1), no comparers", x -> x.bring(1), 0, NET, UNDO);
        EDGES.done(Scenes::rich, "bring(2), other lanes", x -> x.bring(2), 2, NET, UNDO);
        EDGES.done(Scenes::full, "bring(3) of 40", x -> x.bring(3), 40, UNDO);
        LaneNets x = Edges.made(Scenes::rich);
        x.bring(1);
        due("told(0)", 4, x.told(0));
        due("told(1)", 0, x.told(1));
        x.bring(2);
        due("told(0)", 3, x.told(0));
        dueComparer(x, 0, 0, 0, 1, 0);
        dueComparer(x, 1, 1, 1, 2, 0);
        x.bring(0);
        dueComparer(x, 5, 4, 0, 3, 0);
        due("undo()", 13, x.undo());
        due("told(0)", 3, x.told(0));
        due("told(1)", 2, x.told(1));
        EDGES.sentence(30, "the slot's own stays as it is");
        x.bring(2);
        x.change(0, 3);
        due("bring(2)", 2, x.bring(2));
        dueComparer(x, 0, 0, 0, 1, 0);
    }

    private static void bringRefused() {
        EDGES.sentence(30, "BEYOND");
        EDGES.refusedEach(Scenes::rich, "bring(?)", (x, v) -> x.bring(v), BEYOND, -1, LEAST, 4, MOST);
        EDGES.refusedEach(Scenes::full, "bring(?)", (x, v) -> x.bring(v), BEYOND, -1, LEAST, 4, MOST);
        EDGES.sentence(30, "NONE: it has none");
        EDGES.refused(Scenes::rich, "bring(3)", x -> x.bring(3), NONE);
        EDGES.refusedEach(Scenes.manyOf(0, 3), "bring(?)", (x, v) -> x.bring(v), NONE, 0, 1, 2, 3);
    }

    /** A net with so many comparers, of two lanes, and a slot 2 with so many. */
    private static Edges.Scene followed(int own, int kept) {
        return x -> {
            Scenes.manyOf(4, kept).set(x);
            x.keep(2);
            x.lanes(2);
            Scenes.manyOf(1, own).set(x);
        };
    }

    private static void followTaken() {
        EDGES.sentence(31, "a slot's comparers come behind the net's: how many there are");
        EDGES.done(followed(0, 0), "none and none", x -> x.follow(2), 0, UNDO);
        EDGES.done(followed(3, 0), "some and none", x -> x.follow(2), 3, UNDO);
        EDGES.done(followed(0, 3), "none and some", x -> x.follow(2), 3, NET, UNDO);
        EDGES.done(followed(3, 2), "some and some", x -> x.follow(2), 5, NET, UNDO);
        EDGES.done(Scenes::rich, "its own", x -> x.follow(0), 12, NET, UNDO);
        LaneNets x = Edges.made(Scenes::rich);
        x.follow(0);
        dueComparer(x, 0, 0, 0, 1, 0);
        dueComparer(x, 5, 4, 0, 3, 0);
        dueComparer(x, 6, 0, 0, 1, 0);
        dueComparer(x, 10, 4, 1, 2, 1);
        dueComparer(x, 11, 4, 0, 3, 0);
        x.turnSwitch(11, true);
        due("bring(0), as it was", 6, x.bring(0));
        dueComparer(x, 5, 4, 0, 3, 0);
    }

    private static void followFull() {
        EDGES.sentence(31, "FULL: there would be more than 40");
        EDGES.done(followed(20, 20), "20 and 20", x -> x.follow(2), 40, NET, UNDO);
        EDGES.done(followed(39, 1), "39 and 1", x -> x.follow(2), 40, NET, UNDO);
        EDGES.done(followed(0, 40), "none and 40", x -> x.follow(2), 40, NET, UNDO);
        EDGES.done(followed(40, 0), "40 and none", x -> x.follow(2), 40, UNDO);
        EDGES.refused(followed(40, 1), "40 and 1", x -> x.follow(2), FULL);
        EDGES.refused(followed(1, 40), "1 and 40", x -> x.follow(2), FULL);
        EDGES.refused(followed(20, 21), "20 and 21", x -> x.follow(2), FULL);
        EDGES.refused(followed(40, 40), "40 and 40", x -> x.follow(2), FULL);
        EDGES.refused(Scenes::full, "its own 40", x -> x.follow(3), FULL);
    }

    private static void followRefused() {
        EDGES.sentence(31, "BEYOND");
        EDGES.refusedEach(Scenes::rich, "follow(?)", (x, v) -> x.follow(v), BEYOND, -1, LEAST, 4, MOST);
        EDGES.refusedEach(Scenes::full, "follow(?)", (x, v) -> x.follow(v), BEYOND, -1, LEAST, 4, MOST);
        EDGES.sentence(31, "NONE");
        EDGES.refused(Scenes::rich, "follow(3)", x -> x.follow(3), NONE);
        EDGES.refusedEach(Scenes.manyOf(0, 40), "follow(?), of 40", (x, v) -> x.follow(v), NONE, 0, 1, 2, 3);
        EDGES.sentence(31, "SIZE: it has another number of lanes");
        EDGES.refused(Scenes::rich, "follow(2), one less", x -> x.follow(2), SIZE);
        Edges.Scene oneMore = x -> {
            Scenes.rich(x);
            x.lanes(5);
        };
        EDGES.refusedEach(oneMore, "follow(?)", (x, v) -> x.follow(v), SIZE, 0, 1, 2);
        EDGES.sentence(31, "SIZE ahead of FULL");
        Edges.Scene both = x -> {
            Scenes.full(x);
            x.lanes(2);
            Scenes.manyOf(0, 40).set(x);
        };
        EDGES.refusedEach(both, "follow(?)", (x, v) -> x.follow(v), SIZE, 0, 3);
    }

    private static void unlikeTaken() {
        EDGES.sentence(32, "the least number of a row that comes out otherwise of the net than of a slot's");
        for (int n = 2; n <= 8; n++) {
            for (int l = 0; l < n; l++) {
                int lanes = n;
                int lane = l;
                int all = (1 << n) - 1;
                Edges.Scene nought = x -> {
                    Scenes.sorting(x, lanes);
                    x.keep(3);
                    Scenes.failsOnlyOneNought(x, lanes, lane);
                };
                Edges.Scene one = x -> {
                    Scenes.failsOnlyOneOne(x, lanes, lane);
                    x.keep(3);
                    Scenes.sorting(x, lanes);
                };
                EDGES.asked(nought, "0 on " + l + " of " + n, x -> x.unlike(3), all & ~(1 << l));
                EDGES.asked(one, "1 on " + l + " of " + n, x -> x.unlike(3), 1 << l);
            }
        }
        EDGES.asked(Scenes::rich, "unlike(1), without comparers", x -> x.unlike(1), unlikeByHand(1));
    }

    private static int unlikeByHand(int slot) {
        LaneNets x = Edges.made(Scenes::rich);
        LaneNets other = Edges.made(Scenes::rich);
        other.bring(slot);
        for (int row = 0; row < 16; row++) {
            if (x.out(row) != other.out(row)) {
                return row;
            }
        }
        return LONG;
    }

    private static void unlikeRefused() {
        EDGES.sentence(32, "BEYOND");
        EDGES.refusedEach(Scenes::rich, "unlike(?)", (x, v) -> x.unlike(v), BEYOND, -1, LEAST, 4, MOST);
        EDGES.sentence(32, "NONE: the slot has none");
        EDGES.refused(Scenes::rich, "unlike(3)", x -> x.unlike(3), NONE);
        EDGES.refusedEach(Scenes::fresh, "unlike(?)", (x, v) -> x.unlike(v), NONE, 0, 1, 2, 3);
        EDGES.sentence(32, "SIZE: it has another number of lanes");
        EDGES.refused(Scenes::rich, "unlike(2), one less", x -> x.unlike(2), SIZE);
        Edges.Scene oneMore = x -> {
            Scenes.rich(x);
            x.lanes(5);
        };
        EDGES.refusedEach(oneMore, "unlike(?), one more", (x, v) -> x.unlike(v), SIZE, 0, 1, 2);
        EDGES.sentence(32, "LONG: there is none");
        EDGES.refused(Scenes::rich, "unlike(0), the same", x -> x.unlike(0), LONG);
        EDGES.refusedEach(Scenes::full, "unlike(?), the same", (x, v) -> x.unlike(v), LONG, 0, 1, 2, 3);
        for (int n = 2; n <= 8; n++) {
            int lanes = n;
            Edges.Scene none = x -> {
                x.lanes(lanes);
                x.keep(0);
            };
            EDGES.refused(none, "no comparers", x -> x.unlike(0), LONG);
            Edges.Scene other = x -> {
                Scenes.sorting(x, lanes);
                x.keep(0);
                x.comparer(0, 0, lanes - 1);
                x.comparer(2, 0, 1);
            };
            EDGES.refused(other, "other comparers, the same rows", x -> x.unlike(0), LONG);
        }
    }

    private static Edges.Scene waiting(int count) {
        return x -> {
            for (int i = 0; i < count; i++) {
                x.tell(i % 2);
            }
        };
    }

    private static void tell() {
        EDGES.sentence(33, "one more number waits: how many");
        EDGES.done(Scenes::fresh, "the first", x -> x.tell(0), 1, WAITING);
        EDGES.done(waiting(78), "the 79th", x -> x.tell(0), 79, WAITING);
        EDGES.done(waiting(79), "the 80th", x -> x.tell(0), 80, WAITING);
        for (int v : new int[] {-1, 8, LEAST, MOST}) {
            EDGES.done(Scenes::rich, "tell(" + v + ")", x -> x.tell(v), 4, WAITING);
        }
        EDGES.sentence(33, "FULL: 80 wait");
        EDGES.refusedEach(waiting(80), "tell(?)", (x, v) -> x.tell(v), FULL, 0, 1, -1, LEAST, MOST);
        EDGES.refusedEach(Scenes::full, "tell(?)", (x, v) -> x.tell(v), FULL, 0, MOST);
        LaneNets x = Edges.made(waiting(80));
        x.tell(9);
        due("told(2)", 80, x.told(2));
        due("would(), as if 9 was not told", 1, x.would());
        due("tell(9), none wait", 1, x.tell(9));
    }

    private static void wouldTaken() {
        EDGES.sentence(34, "1 with these behind it the net sorts, 0 not");
        for (int n = 2; n <= 8; n++) {
            int lanes = n;
            EDGES.done(Scenes.netOf(n), "no numbers, no comparers", x -> x.would(), 0);
            EDGES.done(x -> Scenes.sorting(x, lanes), "no numbers, sorts", x -> x.would(), 1);
            for (int l = 0; l < n; l++) {
                int lane = l;
                Edges.Scene nought = x -> {
                    Scenes.failsOnlyOneNought(x, lanes, lane);
                    Scenes.numbers(x, 0, 1);
                };
                Edges.Scene one = x -> {
                    Scenes.failsOnlyOneOne(x, lanes, lane);
                    Scenes.numbers(x, 0, lanes - 1);
                };
                EDGES.done(nought, "the one that is missing", x -> x.would(), 1, WAITING);
                EDGES.done(one, "the first and the last", x -> x.would(), n == 2 || wouldHelp(n, l) ? 1 : 0, WAITING);
            }
        }
        EDGES.sentence(34, "behind the net, and one behind the other");
        Edges.Scene order = x -> {
            Scenes.net(x, 3, 0, 0, 1);
            Scenes.numbers(x, 0, 2, 1, 2);
        };
        Edges.Scene otherOrder = x -> {
            Scenes.net(x, 3, 0, 0, 1);
            Scenes.numbers(x, 1, 2, 0, 2);
        };
        EDGES.done(order, "would()", x -> x.would(), 1, WAITING);
        EDGES.done(otherOrder, "would()", x -> x.would(), 0, WAITING);
    }

    /** By the net itself: whether it sorts with a COMPARER on its first and its last lane behind it. */
    private static boolean wouldHelp(int n, int lane) {
        LaneNets x = Edges.made(y -> Scenes.failsOnlyOneOne(y, n, lane));
        x.comparer(0, 0, n - 1);
        return x.sorts() == 1;
    }

    private static void wouldOfMost() {
        EDGES.sentence(34, "80 numbers, also behind 40 comparers");
        Edges.Scene crossed = x -> {
            Scenes.manyOf(3, 40).set(x);
            waiting(80).set(x);
        };
        EDGES.done(crossed, "would()", x -> x.would(), 1, WAITING);
        Edges.Scene last = x -> {
            Scenes.net(x, 3, 0, 0, 1, 0, 0, 2);
            for (int i = 0; i < 39; i++) {
                Scenes.numbers(x, 0, 1);
            }
            Scenes.numbers(x, 1, 2);
        };
        EDGES.done(last, "the last pair makes it sort", x -> x.would(), 1, WAITING);
        EDGES.sentence(34, "(none do then)");
        LaneNets x = Edges.made(crossed);
        x.would();
        due("told(2)", 0, x.told(2));
        due("tell(0)", 1, x.tell(0));
        due("told(1)", 40, x.told(1));
        due("undo()", 24, x.undo());
    }

    private static void wouldSize() {
        EDGES.sentence(34, "SIZE: they are not two for each. (The numbers are gone, behind SIZE, too.)");
        for (int count : new int[] {1, 3, 79}) {
            EDGES.refusedBut(waiting(count), "would() of " + count, x -> x.would(), SIZE, WAITING);
            LaneNets x = Edges.made(waiting(count));
            x.would();
            due("told(2)", 0, x.told(2));
            due("would(), none wait", 0, x.would());
            due("tell(0)", 1, x.tell(0));
        }
        EDGES.sentence(34, "SIZE ahead of BEYOND");
        for (int v : new int[] {-1, 2, LEAST, MOST}) {
            EDGES.refusedBut(x -> x.tell(v), "one number " + v, x -> x.would(), SIZE, WAITING);
            EDGES.refusedBut(x -> Scenes.numbers(x, v, v, v), "three numbers " + v, x -> x.would(), SIZE, WAITING);
        }
        EDGES.refusedBut(x -> Scenes.numbers(x, 1, 0, 0), "not below", x -> x.would(), SIZE, WAITING);
    }

    private static void dueBeyond(Edges.Scene scene, String text) {
        EDGES.refusedBut(scene, text, x -> x.would(), BEYOND, WAITING);
        LaneNets x = Edges.made(scene);
        x.would();
        due("told(2) behind " + text, 0, x.told(2));
        due("tell(0) behind " + text, 1, x.tell(0));
    }

    private static void wouldBeyond() {
        EDGES.sentence(34, "BEYOND: the first of two is not below the second. (The numbers are gone also then.)");
        dueBeyond(x -> Scenes.numbers(x, 1, 0), "1, 0");
        dueBeyond(x -> Scenes.numbers(x, 0, 0), "0, 0");
        dueBeyond(x -> Scenes.numbers(x, 1, 1), "1, 1");
        dueBeyond(x -> Scenes.numbers(x, 0, 1, 1, 0), "0, 1, 1, 0");
        dueBeyond(x -> Scenes.numbers(x, 1, 0, 0, 1), "1, 0, 0, 1");
        EDGES.sentence(34, "BEYOND: the last two of 80");
        for (int v : new int[] {-1, 0, 2, LEAST, MOST}) {
            dueBeyond(x -> {
                waiting(79).set(x);
                x.tell(v);
            }, "79 and " + v);
        }
        EDGES.sentence(34, "BEYOND also of a net that sorts");
        dueBeyond(x -> {
            x.comparer(0, 0, 1);
            Scenes.numbers(x, 0, 2);
        }, "0, 2");
    }

    private static void wouldOfLanes() {
        EDGES.sentence(34, "BEYOND: one is no lane");
        for (int n = 2; n <= 8; n++) {
            int lanes = n;
            for (int v : new int[] {-1, LEAST, lanes, MOST}) {
                dueBeyond(x -> {
                    x.lanes(lanes);
                    Scenes.numbers(x, 0, v);
                }, "0, " + v + " of " + n);
                dueBeyond(x -> {
                    x.lanes(lanes);
                    Scenes.numbers(x, v, lanes - 1);
                }, v + " and the last of " + n);
            }
            EDGES.done(x -> {
                x.lanes(lanes);
                Scenes.numbers(x, lanes - 2, lanes - 1);
            }, "the last two lanes of " + n, x -> x.would(), n == 2 ? 1 : 0, WAITING);
        }
        EDGES.sentence(34, "lanes of the net as it is at the time");
        LaneNets x = new LaneNets();
        x.lanes(3);
        Scenes.numbers(x, 1, 2);
        x.lanes(2);
        due("would()", BEYOND, x.would());
        Scenes.numbers(x, 1, 2);
        x.lanes(3);
        due("would()", 0, x.would());
    }

    private static void undoOfTwentyFive() {
        EDGES.sentence(35, "how many more can be. The latest 25 are kept");
        for (int acts : new int[] {1, 24, 25, 26, 40}) {
            LaneNets x = Edges.made(Scenes.manyOf(1, acts));
            int kept = Math.min(acts, 25);
            for (int more = kept - 1; more >= 0; more--) {
                due("undo() of " + acts, more, x.undo());
                due("told(1)", acts - kept + more, x.told(1));
            }
            due("undo() of " + acts, NONE, x.undo());
            due("told(1)", acts - kept, x.told(1));
            due("undo() of " + acts, NONE, x.undo());
            due("told(3)", 2, x.told(3));
        }
        EDGES.done(Scenes.manyOf(1, 1), "undo() of one", x -> x.undo(), 0, NET, UNDO);
        EDGES.done(Scenes::full, "undo()", x -> x.undo(), 24, NET, UNDO);
        EDGES.done(Scenes::rich, "undo()", x -> x.undo(), 10, NET, UNDO);
    }

    private static void undoAndOn() {
        EDGES.sentence(35, "the latest 25 are kept: also behind some that were undone");
        LaneNets x = Edges.made(Scenes.manyOf(0, 25));
        due("undo()", 24, x.undo());
        x.comparer(1, 0, 1);
        due("undo()", 24, x.undo());
        due("told(1)", 24, x.told(1));
        x.comparer(1, 0, 1);
        x.comparer(1, 0, 1);
        due("undo()", 24, x.undo());
        due("undo()", 23, x.undo());
        due("told(1)", 24, x.told(1));
        for (int i = 0; i < 23; i++) {
            x.undo();
        }
        due("told(1)", 1, x.told(1));
        due("undo()", NONE, x.undo());
        x.lanes(5);
        due("undo()", 0, x.undo());
        due("told(0)", 2, x.told(0));
        due("undo()", NONE, x.undo());
        EDGES.sentence(35, "what was undone cannot be undone: no act of its own");
        LaneNets two = Edges.made(Scenes.manyOf(0, 2));
        two.undo();
        due("undo()", 0, two.undo());
        due("told(1)", 0, two.told(1));
    }

    /** What each act of the ten leaves is undone whole: the net is as before the act. */
    private static void undoOfEachAct() {
        EDGES.sentence(35, "is undone (also such as changed nothing)");
        Edges.Call[] acts = {
            x -> x.lanes(4), x -> x.lanes(7), x -> x.comparer(4, 0, 1), x -> x.cut(3), x -> x.cut(6), x -> x.cut(0),
            x -> x.change(0, 0), x -> x.change(5, 4), x -> x.change(3, 1), x -> x.turnSwitch(4, true),
            x -> x.turnSwitch(5, true), x -> x.drop(), x -> x.mirror(), x -> x.bring(0), x -> x.bring(1),
            x -> x.bring(2), x -> x.follow(0), x -> x.follow(1)
        };
        for (int i = 0; i < acts.length; i++) {
            Edges.Call act = acts[i];
            EDGES.done(Scenes::rich, "act " + i + ", undone", x -> {
                act.on(x);
                return x.undo();
            }, 11);
        }
        Edges.Scene crossed = Scenes.netOf(4, 1, 0, 1, 3, 1, 2, 4, 0, 3);
        EDGES.done(crossed, "turn(), undone", x -> {
            x.turn();
            return x.undo();
        }, 4);
        EDGES.done(Scenes::fresh, "turn() of none, undone", x -> {
            x.turn();
            return x.undo();
        }, 0);
        EDGES.done(Scenes::fresh, "drop() of none, undone", x -> {
            x.drop();
            return x.undo();
        }, 0);
    }

    private static void undoOfNoOther() {
        EDGES.sentence(35, "the latest of the ten that was done: no other call, and none that was refused");
        Edges.Call[] others = {
            x -> x.as(0, 0), x -> x.of(0, 0), x -> x.rounds(), x -> x.crate(0, 1, 4), x -> x.put(0, 0, 1),
            x -> x.load(0, 0), x -> x.copy(0, 0, 4, 0, 1), x -> x.run(0), x -> x.rises(0), x -> x.order(0, 0, 1),
            x -> x.out(1), x -> x.sorts(), x -> x.fails(true), x -> x.merges(1), x -> x.idle(0), x -> x.missing(),
            x -> x.next(0), x -> x.bears(), x -> x.weak(0), x -> x.keep(3), x -> x.unlike(1), x -> x.tell(0),
            x -> x.would(), x -> x.told(0), x -> x.lanes(9), x -> x.comparer(0, 1, 1), x -> x.cut(7),
            x -> x.change(6, 0), x -> x.turnSwitch(0, true), x -> x.turn(), x -> x.bring(4), x -> x.follow(2)
        };
        for (int i = 0; i < others.length; i++) {
            LaneNets x = Edges.made(Scenes::rich);
            others[i].on(x);
            due("undo() behind call " + i, 10, x.undo());
            due("of(5, 4) behind call " + i, 1, x.of(5, 4));
        }
    }

    private static void undoNone() {
        EDGES.sentence(35, "NONE");
        EDGES.refused(Scenes::fresh, "undo(), nothing done", x -> x.undo(), NONE);
        EDGES.refused(x -> x.lanes(9), "undo(), nothing done but refused", x -> x.undo(), NONE);
        EDGES.refused(x -> {
            Scenes.rich(x);
            for (int i = 0; i < 11; i++) {
                x.undo();
            }
        }, "undo(), all undone", x -> x.undo(), NONE);
        EDGES.refused(x -> {
            Scenes.full(x);
            for (int i = 0; i < 25; i++) {
                x.undo();
            }
        }, "undo(), 25 undone", x -> x.undo(), NONE);
    }

    private static void told() {
        EDGES.sentence(36, "0 lanes, 1 comparers, 2 numbers that wait, 3 how many acts answered a finding ever");
        int[] fresh = {2, 0, 0, 0};
        int[] rich = {4, 6, 3, 0};
        int[] full = {8, 40, 80, 0};
        for (int w = 0; w < 4; w++) {
            int what = w;
            EDGES.asked(Scenes::fresh, "told(" + w + ")", x -> x.told(what), fresh[w]);
            EDGES.asked(Scenes::rich, "told(" + w + ")", x -> x.told(what), rich[w]);
            EDGES.asked(Scenes::full, "told(" + w + ")", x -> x.told(what), full[w]);
        }
    }

    private static void toldRefused() {
        EDGES.sentence(36, "BEYOND: another what");
        EDGES.refusedEach(Scenes::rich, "told(?)", (x, v) -> x.told(v), BEYOND, -1, LEAST, 4, 5, MOST);
        EDGES.sentence(36, "this one, too, if it does");
        LaneNets x = new LaneNets();
        x.told(4);
        due("told(3)", 1, x.told(3));
        due("told(3) counts itself only if it answers a finding", 1, x.told(3));
        x.told(-1);
        due("told(3)", 2, x.told(3));
    }

    /** Each call that can answer a finding answers one; none of them takes back what was counted. */
    private static void findingsEver() {
        EDGES.sentence(36, "how many acts answered a finding ever");
        List<Edges.Call> calls = new ArrayList<>(List.of(
            x -> x.lanes(9), x -> x.comparer(0, 0, 0), x -> x.cut(41), x -> x.change(40, 0), x -> x.turnSwitch(0, true),
            x -> x.as(0, 1), x -> x.of(0, 5), x -> x.crate(0, 1, -1), x -> x.put(0, 12, 0), x -> x.load(0, 12),
            x -> x.copy(0, 0, 1, 0, 0), x -> x.run(6), x -> x.rises(6), x -> x.order(0, 0, 12), x -> x.out(256),
            x -> x.merges(8), x -> x.idle(40), x -> x.turn(), x -> x.missing(), x -> x.next(0), x -> x.weak(40),
            x -> x.keep(4), x -> x.bring(4), x -> x.follow(0), x -> x.unlike(0), x -> x.tell(0), x -> x.told(4)));
        LaneNets x = Edges.made(Scenes::full);
        for (int i = 0; i < calls.size(); i++) {
            due("call " + i + " answers a finding", 1, calls.get(i).on(x) < 0 ? 1 : 0);
            due("told(3) behind call " + i, i + 1, x.told(3));
        }
        int counted = calls.size();
        x.undo();
        x.would();
        x.lanes(2);
        x.keep(0);
        due("told(3) behind what is no finding", counted, x.told(3));
        x.comparer(0, 0, 1);
        due("fails(true)", NONE, x.fails(true));
        x.tell(0);
        due("would()", SIZE, x.would());
        due("told(3)", counted + 2, x.told(3));
        LaneNets none = new LaneNets();
        due("undo()", NONE, none.undo());
        due("told(3)", 1, none.told(3));
    }
}
