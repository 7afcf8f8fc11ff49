import java.util.ArrayDeque;
import java.util.ArrayList;
import java.util.Deque;
import java.util.List;

/**
 * The document once more, in the plainest Java and without regard to LANGUAGE.md: one row at a
 * time, loads as boxed numbers. ModelTest holds LaneNets against it.
 */
final class PlainNets {
    private record Comparer(int kind, int a, int b, boolean on) {
        Comparer stuck() {
            return new Comparer(2, a, b, false);
        }
    }

    private record Net(int lanes, List<Comparer> row) {
        Net with(List<Comparer> other) {
            return new Net(lanes, List.copyOf(other));
        }
    }

    private static final class Crate {
        int kind;
        List<Object> loads = new ArrayList<>();
    }

    private Net net = new Net(2, List.of());
    private final Net[] slots = new Net[4];
    private final Crate[] crates = new Crate[6];
    private final Deque<Net> before = new ArrayDeque<>();
    private final List<Integer> numbers = new ArrayList<>();
    private int findings;

    private int f(int finding) {
        findings++;
        return finding;
    }

    private void become(Net changed) {
        before.push(net);
        if (before.size() > 25) {
            before.removeLast();
        }
        net = changed;
    }

    private boolean none(int i) {
        return i < 0 || i >= net.row.size();
    }

    private boolean noLane(int a) {
        return a < 0 || a >= net.lanes;
    }

    int lanes(int n) {
        if (n < 2 || n > 8) return f(-1);
        int had = net.row.size();
        become(new Net(n, List.of()));
        return had;
    }

    int comparer(int kind, int a, int b) {
        if (kind < 0 || kind > 4 || noLane(a) || noLane(b)) return f(-1);
        if (a >= b) return f(-3);
        if (net.row.size() == 40) return f(-5);
        List<Comparer> row = new ArrayList<>(net.row);
        row.add(new Comparer(kind, a, b, kind == 4));
        become(net.with(row));
        return row.size();
    }

    int cut(int k) {
        if (k < 0 || k > net.row.size()) return f(-1);
        int gone = net.row.size() - k;
        become(net.with(net.row.subList(0, k)));
        return gone;
    }

    private void replace(int i, Comparer c) {
        List<Comparer> row = new ArrayList<>(net.row);
        row.set(i, c);
        become(net.with(row));
    }

    int change(int i, int kind) {
        if (none(i) || kind < 0 || kind > 4) return f(-1);
        Comparer c = net.row.get(i);
        replace(i, new Comparer(kind, c.a, c.b, kind == 4));
        return c.kind;
    }

    int turnSwitch(int i, boolean on) {
        if (none(i)) return f(-1);
        Comparer c = net.row.get(i);
        if (c.kind != 4) return f(-4);
        replace(i, new Comparer(4, c.a, c.b, on));
        return c.on ? 1 : 0;
    }

    int as(int i, int kind) {
        if (none(i) || kind < 0 || kind > 4) return f(-1);
        String under = switch (net.row.get(i).kind) {
            case 0 -> "0";
            case 1 -> "10";
            case 2 -> "20";
            case 3 -> "310";
            default -> "420";
        };
        return under.indexOf('0' + kind) >= 0 ? i : f(-4);
    }

    private int round(int i) {
        int round = 1;
        Comparer c = net.row.get(i);
        for (int k = 0; k < i; k++) {
            Comparer d = net.row.get(k);
            if (d.a == c.a || d.a == c.b || d.b == c.a || d.b == c.b) round = Math.max(round, roundOf[k] + 1);
        }
        return round;
    }

    private final int[] roundOf = new int[40];

    private int findRounds() {
        int most = 0;
        for (int i = 0; i < net.row.size(); i++) {
            roundOf[i] = round(i);
            most = Math.max(most, roundOf[i]);
        }
        return most;
    }

    int of(int i, int what) {
        if (none(i) || what < 0 || what > 4) return f(-1);
        Comparer c = net.row.get(i);
        findRounds();
        return new int[] {c.kind, c.a, c.b, roundOf[i], c.on ? 1 : 0}[what];
    }

    int rounds() {
        return findRounds();
    }

    private static Object number(int kind, long v) {
        return switch (kind) {
            case 1 -> (byte) v;
            case 2 -> (char) v;
            case 3 -> (short) v;
            case 4 -> (int) v;
            case 5 -> v;
            case 6 -> Float.intBitsToFloat((int) v);
            default -> Double.longBitsToDouble(v);
        };
    }

    private static int compare(Object x, Object y) {
        if (x instanceof Float p && y instanceof Float q) return Float.compare(p, q);
        if (x instanceof Double p && y instanceof Double q) return Double.compare(p, q);
        return Long.compare(bits(x), bits(y));
    }

    private static long bits(Object x) {
        if (x instanceof Float p) return Float.floatToIntBits(p);
        if (x instanceof Double p) return Double.doubleToLongBits(p);
        if (x instanceof Character p) return p;
        return ((Number) x).longValue();
    }

    int crate(int c, int kind, int n) {
        if (c < 0 || c > 5 || kind < 0 || kind > 7) return f(-1);
        if (n < 0) return f(-3);
        if (n > 12) return f(-1);
        if (kind == 0) {
            crates[c] = null;
            return 0;
        }
        crates[c] = new Crate();
        crates[c].kind = kind;
        for (int i = 0; i < n; i++) crates[c].loads.add(number(kind, 0));
        return n;
    }

    private int crateFinding(int c) {
        if (c < 0 || c > 5) return -1;
        return crates[c] == null ? -2 : 0;
    }

    private int loadFinding(int c, int i) {
        int found = crateFinding(c);
        if (found != 0) return found;
        return i < 0 || i >= crates[c].loads.size() ? -1 : 0;
    }

    int put(int c, int i, long v) {
        int found = loadFinding(c, i);
        if (found != 0) return f(found);
        crates[c].loads.set(i, number(crates[c].kind, v));
        return 0;
    }

    long load(int c, int i) {
        int found = loadFinding(c, i);
        if (found != 0) {
            f(found);
            return Long.MIN_VALUE;
        }
        return bits(crates[c].loads.get(i));
    }

    int copy(int c, int from, int e, int to, int n) {
        if (c < 0 || c > 5 || e < 0 || e > 5) return f(-1);
        if (crates[c] == null || crates[e] == null) return f(-2);
        if (crates[c].kind != crates[e].kind) return f(-4);
        if (from < 0 || to < 0 || n < 0) return f(-1);
        if ((long) from + n > crates[c].loads.size() || (long) to + n > crates[e].loads.size()) return f(-1);
        List<Object> taken = new ArrayList<>(crates[c].loads.subList(from, from + n));
        for (int i = 0; i < n; i++) crates[e].loads.set(to + i, taken.get(i));
        return n;
    }

    private static boolean changes(Comparer c, int order) {
        return switch (c.kind) {
            case 0 -> order > 0;
            case 1 -> order < 0;
            case 2 -> false;
            case 3 -> true;
            default -> c.on && order > 0;
        };
    }

    int run(int c) {
        int found = crateFinding(c);
        if (found != 0) return f(found);
        List<Object> loads = crates[c].loads;
        if (loads.size() < net.lanes) return f(-3);
        int changed = 0;
        for (Comparer k : net.row) {
            Object x = loads.get(k.a);
            Object y = loads.get(k.b);
            if (changes(k, compare(x, y))) {
                loads.set(k.a, y);
                loads.set(k.b, x);
                changed++;
            }
        }
        return changed;
    }

    int rises(int c) {
        int found = crateFinding(c);
        if (found != 0) return f(found);
        List<Object> loads = crates[c].loads;
        for (int i = 0; i < loads.size(); i++) {
            for (int k = i + 1; k < loads.size(); k++) {
                if (compare(loads.get(i), loads.get(k)) > 0) return 0;
            }
        }
        return 1;
    }

    int order(int c, int i, int k) {
        int found = crateFinding(c);
        if (found != 0) return f(found);
        if (loadFinding(c, i) != 0 || loadFinding(c, k) != 0) return f(-1);
        return 10 + Integer.signum(compare(crates[c].loads.get(i), crates[c].loads.get(k)));
    }

    /** Bit k of the second answer tells that comparer k changed lanes. */
    private static long[] through(List<Comparer> row, int number) {
        long busy = 0;
        int at = number;
        for (int k = 0; k < row.size(); k++) {
            Comparer c = row.get(k);
            int x = at >> c.a & 1;
            int y = at >> c.b & 1;
            if (changes(c, x - y)) {
                at = at & ~(1 << c.a) & ~(1 << c.b) | y << c.a | x << c.b;
                if (k < 64) busy |= 1L << k;
            }
        }
        return new long[] {at, busy};
    }

    private static boolean rising(int number, int from, int to) {
        for (int i = from; i < to; i++) {
            for (int k = i + 1; k < to; k++) {
                if ((number >> i & 1) > (number >> k & 1)) return false;
            }
        }
        return true;
    }

    private int least(List<Comparer> row) {
        for (int number = 0; number < 1 << net.lanes; number++) {
            if (!rising((int) through(row, number)[0], 0, net.lanes)) return number;
        }
        return -6;
    }

    int out(int row) {
        if (row < 0 || row >= 1 << net.lanes) return f(-1);
        return (int) through(net.row, row)[0];
    }

    int sorts() {
        return least(net.row) == -6 ? 1 : 0;
    }

    int fails(boolean first) {
        if (first) {
            int least = least(net.row);
            return least == -6 ? f(-6) : least;
        }
        int failing = 0;
        for (int number = 0; number < 1 << net.lanes; number++) {
            if (!rising(out(number), 0, net.lanes)) failing++;
        }
        return failing;
    }

    int merges(int k) {
        if (k < 1 || k > net.lanes - 1) return f(-1);
        for (int number = 0; number < 1 << net.lanes; number++) {
            boolean fit = rising(number, 0, k) && rising(number, k, net.lanes);
            if (fit && !rising(out(number), 0, net.lanes)) return 0;
        }
        return 1;
    }

    private long busy() {
        long busy = 0;
        for (int number = 0; number < 1 << net.lanes; number++) busy |= through(net.row, number)[1];
        return busy;
    }

    int idle(int i) {
        if (none(i)) return f(-1);
        return (busy() >> i & 1) == 0 ? 1 : 0;
    }

    int drop() {
        long busy = busy();
        List<Comparer> row = new ArrayList<>();
        for (int i = 0; i < net.row.size(); i++) {
            if ((busy >> i & 1) != 0) row.add(net.row.get(i));
        }
        int gone = net.row.size() - row.size();
        become(net.with(row));
        return gone;
    }

    int turn() {
        for (Comparer c : net.row) {
            if (c.kind == 2 || c.kind == 4 && !c.on) return f(-7);
        }
        int[] m = {0, 1, 2, 3, 4, 5, 6, 7};
        List<Comparer> row = new ArrayList<>();
        for (Comparer c : net.row) {
            int ma = m[c.a];
            int mb = m[c.b];
            boolean they;
            if (c.kind == 3) {
                they = true;
            } else {
                row.add(new Comparer(0, Math.min(ma, mb), Math.max(ma, mb), false));
                they = c.kind == 1 ? mb > ma : ma > mb;
            }
            if (they) {
                m[c.a] = mb;
                m[c.b] = ma;
            }
        }
        become(net.with(row));
        return row.size();
    }

    int mirror() {
        List<Comparer> row = new ArrayList<>();
        for (Comparer c : net.row) row.add(new Comparer(c.kind, net.lanes - 1 - c.b, net.lanes - 1 - c.a, c.on));
        become(net.with(row));
        return row.size();
    }

    /** All rows of 0, 1, 2 .. COMPARERS in their order, until one makes it sort. */
    private List<Comparer> completion() {
        List<Comparer> pairs = new ArrayList<>();
        for (int a = 0; a < net.lanes; a++) {
            for (int b = a + 1; b < net.lanes; b++) pairs.add(new Comparer(0, a, b, false));
        }
        for (int length = 0, all = 1; length <= 5; length++, all *= pairs.size()) {
            for (int which = 0; which < all; which++) {
                List<Comparer> row = new ArrayList<>();
                for (int i = 0, rest = which; i < length; i++, rest /= pairs.size()) {
                    row.add(0, pairs.get(rest % pairs.size()));
                }
                List<Comparer> whole = new ArrayList<>(net.row);
                whole.addAll(row);
                if (least(whole) == -6) return row;
            }
        }
        throw new IllegalStateException("five comparers sort any four lanes");
    }

    int missing() {
        return net.lanes > 4 ? f(-8) : completion().size();
    }

    int next(int k) {
        if (net.lanes > 4) return f(-8);
        List<Comparer> row = completion();
        return k < 0 || k >= row.size() ? f(-6) : 10 * row.get(k).a + row.get(k).b;
    }

    private List<Comparer> stuckAt(int i) {
        List<Comparer> row = new ArrayList<>(net.row);
        row.set(i, row.get(i).stuck());
        return row;
    }

    int bears() {
        if (net.row.isEmpty()) return sorts();
        for (int i = 0; i < net.row.size(); i++) {
            if (least(stuckAt(i)) != -6) return 0;
        }
        return 1;
    }

    int weak(int i) {
        if (none(i)) return f(-1);
        int least = least(stuckAt(i));
        return least == -6 ? f(-6) : least;
    }

    int keep(int slot) {
        if (slot < 0 || slot > 3) return f(-1);
        slots[slot] = net;
        return net.row.size();
    }

    int bring(int slot) {
        if (slot < 0 || slot > 3) return f(-1);
        if (slots[slot] == null) return f(-6);
        become(slots[slot]);
        return net.row.size();
    }

    int follow(int slot) {
        if (slot < 0 || slot > 3) return f(-1);
        if (slots[slot] == null) return f(-6);
        if (slots[slot].lanes != net.lanes) return f(-3);
        List<Comparer> row = new ArrayList<>(net.row);
        row.addAll(slots[slot].row);
        if (row.size() > 40) return f(-5);
        become(net.with(row));
        return row.size();
    }

    int unlike(int slot) {
        if (slot < 0 || slot > 3) return f(-1);
        if (slots[slot] == null) return f(-6);
        if (slots[slot].lanes != net.lanes) return f(-3);
        for (int number = 0; number < 1 << net.lanes; number++) {
            if (through(slots[slot].row, number)[0] != out(number)) return number;
        }
        return f(-8);
    }

    int tell(int v) {
        if (numbers.size() == 80) return f(-5);
        numbers.add(v);
        return numbers.size();
    }

    int would() {
        List<Integer> taken = new ArrayList<>(numbers);
        numbers.clear();
        if (taken.size() % 2 != 0) return f(-3);
        List<Comparer> row = new ArrayList<>(net.row);
        for (int i = 0; i < taken.size(); i += 2) {
            int a = taken.get(i);
            int b = taken.get(i + 1);
            if (noLane(a) || noLane(b) || a >= b) return f(-1);
            row.add(new Comparer(0, a, b, false));
        }
        return least(row) == -6 ? 1 : 0;
    }

    int undo() {
        if (before.isEmpty()) return f(-6);
        net = before.pop();
        return before.size();
    }

    int told(int what) {
        return switch (what) {
            case 0 -> net.lanes;
            case 1 -> net.row.size();
            case 2 -> numbers.size();
            case 3 -> findings;
            default -> f(-1);
        };
    }
}
