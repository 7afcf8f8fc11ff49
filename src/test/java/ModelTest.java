import java.util.Random;

/** Long runs of calls, the same each time, on LaneNets and on PlainNets: all answers are alike. */
public final class ModelTest {
    private static final int RUNS = 1500;
    private static final int CALLS = 420;
    /** An object is used for as many calls; CALLS leaves room for the acts that ask several. */
    private static final int ALL_CALLS = 512;
    private static final long[] EDGES = {
        0, 1, -1, 127, 128, 255, 256, 32767, 32768, 65535, 65536, 2147483647L, -2147483648L, 2147483648L, 4294967295L,
        Long.MAX_VALUE, Long.MIN_VALUE, 0x7f800000L, 0x7f800001L, 0xff800000L, 0xff800001L, 0x7fc00000L, 0xffc00001L,
        0x7fffffffL, 0xffffffffL, 0x3f800000L, 0xbf800000L, 0x80000001L, 0x7ff0000000000000L, 0x7ff0000000000001L,
        0xfff0000000000000L, 0xfff0000000000001L, 0x7ff8000000000000L, 0x3ff0000000000000L, 0xbff0000000000000L,
        0x8000000000000001L
    };

    private final Checks checks;
    private final Random random;
    private final LaneNets nets = new LaneNets();
    private final PlainNets plain = new PlainNets();
    private final int likedLanes;
    private final boolean plainKinds;
    private int calls = 0;

    private ModelTest(Checks checks, int run) {
        this.checks = checks;
        this.random = new Random(7919L * run + 17);
        this.likedLanes = 2 + run % 7;
        this.plainKinds = run % 3 == 0;
        checks.about("run " + run);
    }

    public static void main(String[] args) {
        Checks checks = new Checks();
        for (int run = 0; run < RUNS && checks.wrong() == 0; run++) {
            ModelTest test = new ModelTest(checks, run);
            test.begin();
            while (test.calls < CALLS) {
                test.call();
                test.totals();
                if (test.one(40)) {
                    test.wholeState();
                }
            }
            test.lastCalls();
        }
        checks.end();
    }

    /** Most crates are there from the start, two of one kind, so that few calls find one MISSING. */
    private void begin() {
        due("lanes(" + likedLanes + ")", plain.lanes(likedLanes), nets.lanes(likedLanes));
        int kind = 1 + random.nextInt(7);
        for (int c = 0; c < 5; c++) {
            int n = random.nextInt(13);
            due("crate(" + c + ", " + kind + ", " + n + ")", plain.crate(c, kind, n), nets.crate(c, kind, n));
            if (c > 0) {
                kind = 1 + random.nextInt(7);
            }
            for (int i = 0; i < n; i++) {
                long v = value();
                due("put(" + c + ", " + i + ", " + v + ")", plain.put(c, i, v), nets.put(c, i, v));
            }
        }
    }

    private void due(String call, long want, long got) {
        calls++;
        checks.due("call " + calls + ", " + call, want, got);
    }

    private boolean one(int of) {
        return random.nextInt(of) == 0;
    }

    /** Mostly 0 to most - 1, now and then an edge or something far off. */
    private int upTo(int most) {
        if (one(25)) {
            return most;
        }
        if (one(25)) {
            return -1;
        }
        if (one(80)) {
            return random.nextBoolean() ? Integer.MAX_VALUE : Integer.MIN_VALUE;
        }
        return random.nextInt(Math.max(most, 1));
    }

    private int kind() {
        return plainKinds && !one(12) ? 0 : upTo(5);
    }

    private int comparerNumber() {
        return upTo(plain.told(1));
    }

    private long value() {
        return one(4) ? random.nextLong() : EDGES[random.nextInt(EDGES.length)];
    }

    private void totals() {
        for (int what = 0; what < 4; what++) {
            if (one(4)) {
                due("told(" + what + ")", plain.told(what), nets.told(what));
            }
        }
    }

    private void wholeState() {
        for (int i = 0; i < plain.told(1); i++) {
            for (int what = 0; what < 5; what++) {
                if (calls < CALLS) {
                    due("of(" + i + ", " + what + ")", plain.of(i, what), nets.of(i, what));
                }
            }
        }
    }

    /** One at a time, up to the very last call that an object is used for. */
    private void lastCalls() {
        while (calls < ALL_CALLS - 1) {
            switch (random.nextInt(4)) {
                case 0 -> addComparer();
                case 1 -> due("undo()", plain.undo(), nets.undo());
                case 2 -> due("mirror()", plain.mirror(), nets.mirror());
                default -> judge();
            }
        }
        due("told(3)", plain.told(3), nets.told(3));
        checks.due("calls in all", ALL_CALLS, calls);
    }

    private void call() {
        switch (random.nextInt(10)) {
            case 0, 1, 2 -> addComparer();
            case 3 -> changeNet();
            case 4, 5 -> useCrates();
            case 6 -> judge();
            case 7 -> complete();
            case 8 -> useSlots();
            default -> useNumbers();
        }
    }

    private void addComparer() {
        int kind = kind();
        int lanes = plain.told(0);
        int a = upTo(lanes);
        int b = upTo(lanes);
        if (a > b && !one(10)) {
            int kept = a;
            a = b;
            b = kept;
        }
        due("comparer(" + kind + ", " + a + ", " + b + ")", plain.comparer(kind, a, b), nets.comparer(kind, a, b));
    }

    private void changeNet() {
        int i = comparerNumber();
        int kind = kind();
        boolean on = random.nextBoolean();
        switch (random.nextInt(14)) {
            case 0 -> {
                int n = one(2) ? likedLanes : 1 + upTo(8);
                if (one(3)) {
                    due("lanes(" + n + ")", plain.lanes(n), nets.lanes(n));
                }
            }
            case 1 -> due("cut(" + i + ")", plain.cut(i), nets.cut(i));
            case 2 -> makeGate(i);
            case 3 -> due("change(" + i + ", " + kind + ")", plain.change(i, kind), nets.change(i, kind));
            case 4, 5 -> due("turnSwitch(" + i + ", " + on + ")", plain.turnSwitch(i, on), nets.turnSwitch(i, on));
            case 6 -> due("as(" + i + ", " + kind + ")", plain.as(i, kind), nets.as(i, kind));
            case 7 -> due("rounds()", plain.rounds(), nets.rounds());
            case 8 -> due("drop()", plain.drop(), nets.drop());
            case 9 -> due("turn()", plain.turn(), nets.turn());
            case 10 -> due("mirror()", plain.mirror(), nets.mirror());
            case 11 -> due("of(" + i + ", 5)", plain.of(i, 5), nets.of(i, 5));
            default -> undoSome();
        }
    }

    private void makeGate(int i) {
        due("change(" + i + ", 4)", plain.change(i, 4), nets.change(i, 4));
        due("turnSwitch(" + i + ", false)", plain.turnSwitch(i, false), nets.turnSwitch(i, false));
        if (one(3)) {
            due("turnSwitch(" + i + ", true)", plain.turnSwitch(i, true), nets.turnSwitch(i, true));
        }
    }

    private void undoSome() {
        int times = one(12) ? 30 : 1 + random.nextInt(3);
        for (int i = 0; i < times; i++) {
            due("undo()", plain.undo(), nets.undo());
        }
    }

    private void useCrates() {
        int c = upTo(6);
        int i = upTo(one(3) ? 12 : 5);
        int k = upTo(one(3) ? 12 : 5);
        switch (random.nextInt(9)) {
            case 0 -> {
                int kind = upTo(8);
                int n = one(3) ? upTo(13) : 4 + random.nextInt(9);
                due("crate(" + c + ", " + kind + ", " + n + ")", plain.crate(c, kind, n), nets.crate(c, kind, n));
            }
            case 1, 2, 3 -> {
                long v = value();
                due("put(" + c + ", " + i + ", " + v + ")", plain.put(c, i, v), nets.put(c, i, v));
            }
            case 4 -> due("load(" + c + ", " + i + ")", plain.load(c, i), nets.load(c, i));
            case 5 -> {
                int e = one(2) ? c : upTo(6);
                int n = upTo(6);
                due("copy(" + c + ", " + i + ", " + e + ", " + k + ", " + n + ")",
                    plain.copy(c, i, e, k, n), nets.copy(c, i, e, k, n));
            }
            case 6 -> {
                due("run(" + c + ")", plain.run(c), nets.run(c));
                due("load(" + c + ", " + i + ")", plain.load(c, i), nets.load(c, i));
                due("load(" + c + ", " + k + ")", plain.load(c, k), nets.load(c, k));
            }
            case 7 -> due("rises(" + c + ")", plain.rises(c), nets.rises(c));
            default -> due("order(" + c + ", " + i + ", " + k + ")", plain.order(c, i, k), nets.order(c, i, k));
        }
    }

    private void judge() {
        int i = comparerNumber();
        int row = upTo(1 << plain.told(0));
        int k = upTo(plain.told(0));
        switch (random.nextInt(8)) {
            case 0, 1 -> due("out(" + row + ")", plain.out(row), nets.out(row));
            case 2 -> due("sorts()", plain.sorts(), nets.sorts());
            case 3 -> due("fails(false)", plain.fails(false), nets.fails(false));
            case 4 -> due("fails(true)", plain.fails(true), nets.fails(true));
            case 5 -> due("merges(" + k + ")", plain.merges(k), nets.merges(k));
            default -> due("idle(" + i + ")", plain.idle(i), nets.idle(i));
        }
    }

    private void complete() {
        int i = comparerNumber();
        switch (random.nextInt(4)) {
            case 0 -> due("bears()", plain.bears(), nets.bears());
            case 1 -> due("weak(" + i + ")", plain.weak(i), nets.weak(i));
            case 2 -> {
                if (one(4)) {
                    due("missing()", plain.missing(), nets.missing());
                }
            }
            default -> {
                int k = upTo(4);
                if (one(4)) {
                    due("next(" + k + ")", plain.next(k), nets.next(k));
                }
            }
        }
    }

    private void useSlots() {
        int slot = upTo(4);
        switch (random.nextInt(5)) {
            case 0 -> due("keep(" + slot + ")", plain.keep(slot), nets.keep(slot));
            case 1 -> due("bring(" + slot + ")", plain.bring(slot), nets.bring(slot));
            case 2 -> due("follow(" + slot + ")", plain.follow(slot), nets.follow(slot));
            default -> due("unlike(" + slot + ")", plain.unlike(slot), nets.unlike(slot));
        }
    }

    private void useNumbers() {
        int pairs = one(60) ? 41 : random.nextInt(5);
        int lanes = plain.told(0);
        for (int i = 0; i < pairs; i++) {
            int a = one(20) ? upTo(lanes) : random.nextInt(lanes - 1);
            int b = one(20) ? upTo(lanes) : a < 0 || a >= lanes - 1 ? 0 : a + 1 + random.nextInt(lanes - 1 - a);
            due("tell(" + a + ")", plain.tell(a), nets.tell(a));
            due("tell(" + b + ")", plain.tell(b), nets.tell(b));
        }
        if (one(12)) {
            due("tell(1)", plain.tell(1), nets.tell(1));
        }
        if (!one(6)) {
            due("would()", plain.would(), nets.would());
        }
    }
}
