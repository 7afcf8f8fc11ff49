import java.util.ArrayList;
import java.util.EnumSet;
import java.util.List;
import java.util.Set;

/**
 * Asks one call in a state that a scene sets up: what it answers, whether it is counted as a
 * finding, and which parts of the object it leaves as they were. What a part holds is told by the
 * public face alone, each time of two new objects in the same state, one with the call and one
 * without, so that telling may spoil them and each stays under 512 calls.
 */
final class Edges {
    static final int BEYOND = -1;
    static final int MISSING = -2;
    static final int SIZE = -3;
    static final int KIND = -4;
    static final int FULL = -5;
    static final int NONE = -6;
    static final int STICKS = -7;
    static final int LONG = -8;
    static final int LEAST = Integer.MIN_VALUE;
    static final int MOST = Integer.MAX_VALUE;

    /** The calls that lead to a state. */
    interface Scene {
        void set(LaneNets x);
    }

    interface Call {
        long on(LaneNets x);
    }

    /** A call of which one argument is left open. */
    interface OpenCall {
        long on(LaneNets x, int v);
    }

    private interface Look {
        void at(LaneNets x, List<Long> seen);
    }

    /** What an object holds, beside how many findings it answered. */
    enum Part { NET, UNDO, SLOTS, CRATES, WAITING }

    private final Checks checks = new Checks();

    /** The sentence of the document that the checks from here on are about. */
    void sentence(int promise, String text) {
        checks.about("promise " + promise + ", \"" + text + "\"");
    }

    void term(String text) {
        checks.about("terms, \"" + text + "\"");
    }

    void due(String call, long want, long got) {
        checks.due(call, want, got);
    }

    void end() {
        checks.end();
    }

    static LaneNets made(Scene scene) {
        LaneNets x = new LaneNets();
        scene.set(x);
        return x;
    }

    /** The call answers a finding, is counted once and changes nothing. */
    void refused(Scene scene, String text, Call call, long finding) {
        refusedBut(scene, text, call, finding);
    }

    /** As refused(), for a call of which the document tells that it changes these parts nonetheless. */
    void refusedBut(Scene scene, String text, Call call, long finding, Part... changed) {
        answers(scene, text, call, finding, 1);
        leaves(scene, text, call, changed);
    }

    /** The call answers no finding and changes nothing. */
    void asked(Scene scene, String text, Call call, long answer) {
        done(scene, text, call, answer);
    }

    /** The call answers no finding and changes no part but these. */
    void done(Scene scene, String text, Call call, long answer, Part... changed) {
        answers(scene, text, call, answer, 0);
        leaves(scene, text, call, changed);
    }

    /** As refused(), for each value in the place of the ? in the text. */
    void refusedEach(Scene scene, String text, OpenCall call, long finding, int... values) {
        for (int v : values) {
            refused(scene, text.replace("?", "" + v), x -> call.on(x, v), finding);
        }
    }

    private void answers(Scene scene, String text, Call call, long answer, int findings) {
        LaneNets x = made(scene);
        int before = x.told(3);
        due(text, answer, call.on(x));
        due(text + ", then told(3)", before + findings, x.told(3));
    }

    private void leaves(Scene scene, String text, Call call, Part... changed) {
        Set<Part> left = EnumSet.allOf(Part.class);
        left.removeAll(List.of(changed));
        for (Part part : left) {
            int looks = looksAt(part).size();
            for (int k = 0; k < looks; k++) {
                LaneNets without = made(scene);
                LaneNets with = made(scene);
                call.on(with);
                boolean alike = seen(part, k, without).equals(seen(part, k, with));
                due(text + ", then " + part + " as before (look " + k + ")", 1, alike ? 1 : 0);
            }
        }
    }

    private static List<Long> seen(Part part, int k, LaneNets x) {
        List<Long> seen = new ArrayList<>();
        looksAt(part).get(k).at(x, seen);
        return seen;
    }

    private static List<Look> looksAt(Part part) {
        List<Look> looks = new ArrayList<>();
        switch (part) {
            case NET -> looks.add(Edges::net);
            case UNDO -> looks.add(Edges::undone);
            case SLOTS -> {
                for (int slot = 0; slot < 4; slot++) {
                    int one = slot;
                    looks.add((x, seen) -> slot(x, one, seen));
                }
            }
            case CRATES -> {
                looks.add(Edges::loads);
                for (int c = 0; c < 6; c++) {
                    int one = c;
                    looks.add((x, seen) -> kindOfCrate(x, one, seen));
                }
            }
            default -> {
                looks.add((x, seen) -> seen.add((long) x.told(2)));
                looks.add((x, seen) -> waiting(x, 2, seen));
                looks.add((x, seen) -> waiting(x, 8, seen));
            }
        }
        return looks;
    }

    private static void net(LaneNets x, List<Long> seen) {
        int comparers = x.told(1);
        seen.add((long) x.told(0));
        seen.add((long) comparers);
        for (int i = 0; i < comparers; i++) {
            for (int what = 0; what < 5; what++) {
                seen.add((long) x.of(i, what));
            }
        }
    }

    private static void undone(LaneNets x, List<Long> seen) {
        for (int times = 0; times < 27; times++) {
            seen.add((long) x.undo());
            seen.add((long) x.told(0));
            int last = x.told(1) - 1;
            seen.add((long) last);
            for (int what = 0; what < 5; what++) {
                seen.add((long) x.of(last, what));
            }
            seen.add((long) x.fails(false));
        }
    }

    private static void slot(LaneNets x, int slot, List<Long> seen) {
        int comparers = x.bring(slot);
        seen.add((long) comparers);
        if (comparers >= 0) {
            net(x, seen);
        }
    }

    private static void loads(LaneNets x, List<Long> seen) {
        for (int c = 0; c < 6; c++) {
            seen.add((long) x.rises(c));
            for (int i = 0; i < 12; i++) {
                seen.add(x.load(c, i));
                seen.add((long) x.order(c, i, i));
            }
        }
    }

    /** Only crates of one kind can be copied, also of no loads: that tells a crate's kind. */
    private static void kindOfCrate(LaneNets x, int c, List<Long> seen) {
        int other = c == 5 ? 0 : 5;
        for (int kind = 1; kind < 8; kind++) {
            x.crate(other, kind, 0);
            seen.add((long) x.copy(c, 0, other, 0, 0));
        }
    }

    /** What the numbers that wait make of a net without comparers. */
    private static void waiting(LaneNets x, int lanes, List<Long> seen) {
        x.lanes(lanes);
        seen.add((long) x.would());
        seen.add((long) x.told(2));
    }
}
