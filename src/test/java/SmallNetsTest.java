import java.util.function.ToLongFunction;

/**
 * Every net of two lanes and up to four comparers, of three lanes and up to three, and of four
 * lanes and up to one, of all kinds and both switches: each question of it, and what each act makes
 * of it, is answered as by PlainNets. Random runs seldom meet the few of these that sort, merge or
 * bear a comparer that sticks.
 */
public final class SmallNetsTest {
    /** Kinds 0 to 4, and behind them a GATE that is off. */
    private static final int WAYS = 6;
    private static final int GATE_OFF = 5;
    private static final int GATE = 4;

    private static final Checks CHECKS = new Checks();

    private final LaneNets nets = new LaneNets();
    private final PlainNets plain = new PlainNets();
    private final int lanes;

    private SmallNetsTest(int lanes) {
        this.lanes = lanes;
        due("lanes(" + lanes + ")", p -> p.lanes(lanes), x -> x.lanes(lanes));
    }

    public static void main(String[] args) {
        allNets(2, 4);
        allNets(3, 3);
        allNets(4, 1);
        CHECKS.end();
    }

    private static void allNets(int lanes, int most) {
        int pairs = lanes * (lanes - 1) / 2;
        int all = 1;
        for (int length = 0; length <= most; length++) {
            for (int which = 0; which < all; which++) {
                CHECKS.about("net " + which + " of " + lanes + " lanes and " + length + " comparers");
                oneNet(lanes, length, which);
            }
            all *= pairs * WAYS;
        }
    }

    private static void oneNet(int lanes, int length, int which) {
        SmallNetsTest test = new SmallNetsTest(lanes);
        test.build(length, which);
        test.comparers();
        test.rows();
        test.completion();
        test.crate();
        test.keptAndChanged();
        test.due("told(3)", p -> p.told(3), x -> x.told(3));
    }

    private void due(String call, ToLongFunction<PlainNets> want, ToLongFunction<LaneNets> got) {
        CHECKS.due(call, want.applyAsLong(plain), got.applyAsLong(nets));
    }

    private void build(int length, int which) {
        int rest = which;
        for (int i = 0; i < length; i++) {
            int way = rest % WAYS;
            rest /= WAYS;
            int pairs = lanes * (lanes - 1) / 2;
            add(i, way, rest % pairs);
            rest /= pairs;
        }
    }

    private void add(int i, int way, int pair) {
        int low = 0;
        int high = 1 + pair;
        while (high >= lanes) {
            high -= lanes - 2 - low;
            low++;
        }
        int a = low;
        int b = high;
        int kind = way == GATE_OFF ? GATE : way;
        due("comparer(" + kind + ", " + a + ", " + b + ")", p -> p.comparer(kind, a, b), x -> x.comparer(kind, a, b));
        if (way == GATE_OFF) {
            due("turnSwitch(" + i + ", false)", p -> p.turnSwitch(i, false), x -> x.turnSwitch(i, false));
        }
    }

    private void comparers() {
        due("rounds()", p -> p.rounds(), x -> x.rounds());
        for (int k = 0; k < plain.told(1); k++) {
            int i = k;
            for (int w = 0; w < 5; w++) {
                int what = w;
                due("of(" + i + ", " + what + ")", p -> p.of(i, what), x -> x.of(i, what));
            }
        }
    }

    private void rowsComeOut() {
        for (int r = 0; r < 1 << lanes; r++) {
            int row = r;
            due("out(" + row + ")", p -> p.out(row), x -> x.out(row));
        }
    }

    private void rows() {
        rowsComeOut();
        due("sorts()", p -> p.sorts(), x -> x.sorts());
        due("fails(false)", p -> p.fails(false), x -> x.fails(false));
        due("fails(true)", p -> p.fails(true), x -> x.fails(true));
        for (int at = 1; at < lanes; at++) {
            int k = at;
            due("merges(" + k + ")", p -> p.merges(k), x -> x.merges(k));
        }
        due("bears()", p -> p.bears(), x -> x.bears());
        for (int k = 0; k < plain.told(1); k++) {
            int i = k;
            due("idle(" + i + ")", p -> p.idle(i), x -> x.idle(i));
            due("weak(" + i + ")", p -> p.weak(i), x -> x.weak(i));
        }
    }

    private void completion() {
        int missing = plain.missing();
        CHECKS.due("missing()", missing, nets.missing());
        for (int at = 0; at <= missing; at++) {
            int k = at;
            due("next(" + k + ")", p -> p.next(k), x -> x.next(k));
        }
    }

    /** Falling loads, two of them like each other, and one behind the lanes that stays. */
    private void crate() {
        int n = lanes + 1;
        due("crate(0, 1, " + n + ")", p -> p.crate(0, 1, n), x -> x.crate(0, 1, n));
        for (int k = 0; k < n; k++) {
            int i = k;
            long v = -Math.max(k, 1);
            due("put(0, " + i + ", " + v + ")", p -> p.put(0, i, v), x -> x.put(0, i, v));
        }
        due("run(0)", p -> p.run(0), x -> x.run(0));
        for (int k = 0; k < n; k++) {
            int i = k;
            due("load(0, " + i + ")", p -> p.load(0, i), x -> x.load(0, i));
        }
        due("rises(0)", p -> p.rises(0), x -> x.rises(0));
    }

    private void keptAndChanged() {
        due("keep(0)", p -> p.keep(0), x -> x.keep(0));
        changed("drop()", p -> p.drop(), x -> x.drop());
        changed("turn()", p -> p.turn(), x -> x.turn());
        changed("mirror()", p -> p.mirror(), x -> x.mirror());
        changed("follow(0)", p -> p.follow(0), x -> x.follow(0));
    }

    /** What an act makes of the net, and that it is undone; a net that sticks is not turned. */
    private void changed(String act, ToLongFunction<PlainNets> want, ToLongFunction<LaneNets> got) {
        long answer = want.applyAsLong(plain);
        CHECKS.due(act, answer, got.applyAsLong(nets));
        comparers();
        rowsComeOut();
        due(act + ", then unlike(0)", p -> p.unlike(0), x -> x.unlike(0));
        if (answer >= 0) {
            due(act + ", then undo()", p -> p.undo(), x -> x.undo());
        }
    }
}
