/**
 * A grader of loads by fixed nets of comparers over lanes. The document's promises say what each
 * call answers; findings are the answers below 0.
 */
public final class LaneNets {
    private static final int BEYOND = -1;
    private static final int MISSING = -2;
    private static final int SIZE = -3;
    private static final int KIND = -4;
    private static final int FULL = -5;
    private static final int NONE = -6;
    private static final int STICKS = -7;
    private static final int LONG = -8;

    private static final int COMPARER = 0;
    private static final int BACKWARD = 1;
    private static final int STUCK = 2;
    private static final int CROSSED = 3;
    private static final int GATE = 4;
    private static final int KINDS = 5;
    /** The kind that each kind stands under; -1 is above all. */
    private static final int[] KIND_ABOVE = {-1, COMPARER, COMPARER, BACKWARD, STUCK};

    private static final int BYTES = 1;
    private static final int CHARS = 2;
    private static final int SHORTS = 3;
    private static final int INTS = 4;
    private static final int FLOATS = 6;
    private static final int DOUBLES = 7;

    private static final int LEAST_LANES = 2;
    private static final int MOST_LANES = 8;
    private static final int MOST_COMPARERS = 40;
    private static final int CRATES = 6;
    private static final int MOST_LOADS = 12;
    private static final int SLOTS = 4;
    private static final int MOST_WAITING = 80;
    private static final int MOST_UNDONE = 25;
    private static final int MOST_LANES_SEARCHED = 4;
    /** Five comparers sort four lanes, whatever comes in, so no net of up to four misses more. */
    private static final int MOST_MISSING = 5;

    /** What load() answers with a finding: the least long. */
    private static final long NO_LOAD = -9223372036854775808L;

    /** Where a comparer's number is asked for and none is meant. */
    private static final int NO_COMPARER = -1;

    private final Net net = new Net();
    private final Net[] slots = new Net[SLOTS];
    private final History history = new History();
    private final Crate[] crates = new Crate[CRATES];
    private final Rows rows = new Rows();
    private final Rows otherRows = new Rows();
    private final Completion completion = new Completion();
    /** A number for each lane, free for any one call to use. */
    private final int[] laneNumbers = new int[MOST_LANES];
    private final int[] waiting = new int[MOST_WAITING];
    private int waits = 0;
    private int findings = 0;

    public LaneNets() {
        net.clear(LEAST_LANES);
        for (int slot = 0; slot < SLOTS; slot++) {
            slots[slot] = new Net();
        }
        for (int c = 0; c < CRATES; c++) {
            crates[c] = new Crate();
        }
    }

    // ---- the net

    public int lanes(int n) {
        if (n < LEAST_LANES || n > MOST_LANES) {
            return finding(BEYOND);
        }
        history.remember(net);
        int before = net.count;
        net.clear(n);
        return before;
    }

    public int comparer(int kind, int a, int b) {
        if (!isKind(kind) || !net.hasLane(a) || !net.hasLane(b)) {
            return finding(BEYOND);
        }
        if (a >= b) {
            return finding(SIZE);
        }
        if (net.count >= MOST_COMPARERS) {
            return finding(FULL);
        }
        history.remember(net);
        net.add(kind, a, b);
        return net.count;
    }

    public int cut(int k) {
        if (k < 0 || k > net.count) {
            return finding(BEYOND);
        }
        history.remember(net);
        int gone = net.count - k;
        net.count = k;
        return gone;
    }

    public int change(int i, int kind) {
        if (!net.has(i) || !isKind(kind)) {
            return finding(BEYOND);
        }
        history.remember(net);
        int before = net.kind(i);
        net.write(i, kind, net.low(i), net.high(i));
        return before;
    }

    public int turnSwitch(int i, boolean on) {
        if (!net.has(i)) {
            return finding(BEYOND);
        }
        if (net.kind(i) != GATE) {
            return finding(KIND);
        }
        history.remember(net);
        int before = net.switchOf(i);
        net.setSwitch(i, on);
        return before;
    }

    public int as(int i, int kind) {
        if (!net.has(i) || !isKind(kind)) {
            return finding(BEYOND);
        }
        if (!isUnder(net.kind(i), kind)) {
            return finding(KIND);
        }
        return i;
    }

    public int of(int i, int what) {
        if (!net.has(i)) {
            return finding(BEYOND);
        }
        switch (what) {
            case 0:
                return net.kind(i);
            case 1:
                return net.low(i);
            case 2:
                return net.high(i);
            case 3:
                lastRound(i + 1);
                return laneNumbers[net.low(i)];
            case 4:
                return net.switchOf(i);
            default:
                return finding(BEYOND);
        }
    }

    public int rounds() {
        return lastRound(net.count);
    }

    // ---- crates

    public int crate(int c, int kind, int n) {
        if (!isCrate(c) || kind < 0 || kind > DOUBLES) {
            return finding(BEYOND);
        }
        if (n < 0) {
            return finding(SIZE);
        }
        if (n > MOST_LOADS) {
            return finding(BEYOND);
        }
        int loads = kind == 0 ? 0 : n;
        crates[c].renew(kind, loads);
        return loads;
    }

    public int put(int c, int i, long v) {
        int found = findingOfLoad(c, i);
        if (found < 0) {
            return finding(found);
        }
        crates[c].write(i, v);
        return 0;
    }

    public long load(int c, int i) {
        int found = findingOfLoad(c, i);
        if (found < 0) {
            finding(found);
            return NO_LOAD;
        }
        return crates[c].loads[i];
    }

    public int copy(int c, int from, int e, int to, int n) {
        if (!isCrate(c) || !isCrate(e)) {
            return finding(BEYOND);
        }
        Crate source = crates[c];
        Crate target = crates[e];
        if (source.isMissing() || target.isMissing()) {
            return finding(MISSING);
        }
        if (source.kind != target.kind) {
            return finding(KIND);
        }
        if (!source.hasPart(from, n) || !target.hasPart(to, n)) {
            return finding(BEYOND);
        }
        System.arraycopy(source.loads, from, target.loads, to, n);
        return n;
    }

    public int run(int c) {
        int found = findingOfCrate(c);
        if (found < 0) {
            return finding(found);
        }
        Crate crate = crates[c];
        if (crate.count < net.lanes) {
            return finding(SIZE);
        }
        int changes = 0;
        for (int i = 0; i < net.count; i++) {
            if (crate.mustChange(net.actingKind(i), net.low(i), net.high(i))) {
                crate.exchange(net.low(i), net.high(i));
                changes++;
            }
        }
        return changes;
    }

    public int rises(int c) {
        int found = findingOfCrate(c);
        if (found < 0) {
            return finding(found);
        }
        Crate crate = crates[c];
        for (int i = 0; i + 1 < crate.count; i++) {
            if (crate.compare(i, i + 1) > 0) {
                return 0;
            }
        }
        return 1;
    }

    public int order(int c, int i, int k) {
        int found = findingOfLoad(c, i);
        if (found == 0) {
            found = findingOfLoad(c, k);
        }
        if (found < 0) {
            return finding(found);
        }
        int order = crates[c].compare(i, k);
        if (order == 0) {
            return 10;
        }
        return order < 0 ? 9 : 11;
    }

    // ---- rows of noughts and ones

    public int out(int row) {
        if (row < 0 || row >= (1 << net.lanes)) {
            return finding(BEYOND);
        }
        rows.start(net.lanes, row / Rows.IN_BLOCK);
        rows.pass(net, NO_COMPARER);
        return rows.numberOf(row % Rows.IN_BLOCK, net.lanes);
    }

    public int sorts() {
        return leastFailing(NO_COMPARER) == NONE ? 1 : 0;
    }

    public int fails(boolean first) {
        if (first) {
            return toldOrFinding(leastFailing(NO_COMPARER));
        }
        int failing = 0;
        for (int block = 0; block < Rows.blocks(net.lanes); block++) {
            failing += Long.bitCount(failingRows(block, NO_COMPARER));
        }
        return failing;
    }

    public int merges(int k) {
        if (k < 1 || k >= net.lanes) {
            return finding(BEYOND);
        }
        for (int block = 0; block < Rows.blocks(net.lanes); block++) {
            rows.start(net.lanes, block);
            long unfit = rows.falling(0, k) | rows.falling(k, net.lanes);
            rows.pass(net, NO_COMPARER);
            if ((rows.falling(0, net.lanes) & ~unfit) != 0) {
                return 0;
            }
        }
        return 1;
    }

    public int idle(int i) {
        if (!net.has(i)) {
            return finding(BEYOND);
        }
        return isIn(busyComparers(), i) ? 0 : 1;
    }

    public int drop() {
        long busy = busyComparers();
        history.remember(net);
        int kept = 0;
        for (int i = 0; i < net.count; i++) {
            if (isIn(busy, i)) {
                net.comparers[kept] = net.comparers[i];
                kept++;
            }
        }
        int gone = net.count - kept;
        net.count = kept;
        return gone;
    }

    public int turn() {
        for (int i = 0; i < net.count; i++) {
            if (net.actingKind(i) == STUCK) {
                return finding(STICKS);
            }
        }
        history.remember(net);
        for (int lane = 0; lane < MOST_LANES; lane++) {
            laneNumbers[lane] = lane;
        }
        int righted = 0;
        for (int i = 0; i < net.count; i++) {
            int kind = net.actingKind(i);
            int a = net.low(i);
            int b = net.high(i);
            int placeA = laneNumbers[a];
            int placeB = laneNumbers[b];
            if (kind != CROSSED) {
                net.write(righted, COMPARER, Math.min(placeA, placeB), Math.max(placeA, placeB));
                righted++;
            }
            if (changesPlaces(kind, placeA, placeB)) {
                laneNumbers[a] = placeB;
                laneNumbers[b] = placeA;
            }
        }
        net.count = righted;
        return righted;
    }

    public int mirror() {
        history.remember(net);
        int last = net.lanes - 1;
        for (int i = 0; i < net.count; i++) {
            net.move(i, last - net.high(i), last - net.low(i));
        }
        return net.count;
    }

    // ---- what is missing, what sticks

    public int missing() {
        if (net.lanes > MOST_LANES_SEARCHED) {
            return finding(LONG);
        }
        findCompletion();
        return completion.fewest;
    }

    public int next(int k) {
        if (net.lanes > MOST_LANES_SEARCHED) {
            return finding(LONG);
        }
        findCompletion();
        if (k < 0 || k >= completion.fewest || k >= MOST_MISSING) {
            return finding(NONE);
        }
        return completion.pairs[k];
    }

    public int bears() {
        if (net.count == 0) {
            return sorts();
        }
        for (int i = 0; i < net.count; i++) {
            if (leastFailing(i) != NONE) {
                return 0;
            }
        }
        return 1;
    }

    public int weak(int i) {
        if (!net.has(i)) {
            return finding(BEYOND);
        }
        return toldOrFinding(leastFailing(i));
    }

    // ---- nets that are kept

    public int keep(int slot) {
        if (!isSlot(slot)) {
            return finding(BEYOND);
        }
        slots[slot].become(net);
        return net.count;
    }

    public int bring(int slot) {
        int found = findingOfSlot(slot);
        if (found < 0) {
            return finding(found);
        }
        history.remember(net);
        net.become(slots[slot]);
        return net.count;
    }

    public int follow(int slot) {
        int found = findingOfFit(slot);
        if (found < 0) {
            return finding(found);
        }
        Net behind = slots[slot];
        if (net.count + behind.count > MOST_COMPARERS) {
            return finding(FULL);
        }
        history.remember(net);
        System.arraycopy(behind.comparers, 0, net.comparers, net.count, behind.count);
        net.count += behind.count;
        return net.count;
    }

    public int unlike(int slot) {
        int found = findingOfFit(slot);
        if (found < 0) {
            return finding(found);
        }
        for (int block = 0; block < Rows.blocks(net.lanes); block++) {
            rows.start(net.lanes, block);
            rows.pass(net, NO_COMPARER);
            otherRows.start(net.lanes, block);
            otherRows.pass(slots[slot], NO_COMPARER);
            long differing = rows.differing(otherRows, net.lanes);
            if (differing != 0) {
                return Rows.leastOf(differing, block);
            }
        }
        return finding(LONG);
    }

    public int tell(int v) {
        if (waits >= MOST_WAITING) {
            return finding(FULL);
        }
        waiting[waits] = v;
        waits++;
        return waits;
    }

    public int would() {
        int taken = waits;
        waits = 0;
        if (taken % 2 != 0) {
            return finding(SIZE);
        }
        if (!areLanePairs(taken)) {
            return finding(BEYOND);
        }
        for (int block = 0; block < Rows.blocks(net.lanes); block++) {
            rows.start(net.lanes, block);
            rows.pass(net, NO_COMPARER);
            for (int i = 0; i + 1 < taken; i += 2) {
                rows.step(COMPARER, waiting[i], waiting[i + 1]);
            }
            if (rows.falling(0, net.lanes) != 0) {
                return 0;
            }
        }
        return 1;
    }

    public int undo() {
        if (history.held == 0) {
            return finding(NONE);
        }
        history.giveBack(net);
        return history.held;
    }

    public int told(int what) {
        switch (what) {
            case 0:
                return net.lanes;
            case 1:
                return net.count;
            case 2:
                return waits;
            case 3:
                return findings;
            default:
                return finding(BEYOND);
        }
    }

    // ---- findings

    private int finding(int which) {
        findings++;
        return which;
    }

    private int toldOrFinding(int answer) {
        return answer < 0 ? finding(answer) : answer;
    }

    private int findingOfCrate(int c) {
        if (!isCrate(c)) {
            return BEYOND;
        }
        return crates[c].isMissing() ? MISSING : 0;
    }

    private int findingOfLoad(int c, int i) {
        int found = findingOfCrate(c);
        if (found < 0) {
            return found;
        }
        return i < 0 || i >= crates[c].count ? BEYOND : 0;
    }

    private int findingOfSlot(int slot) {
        if (!isSlot(slot)) {
            return BEYOND;
        }
        return slots[slot].isNone() ? NONE : 0;
    }

    private int findingOfFit(int slot) {
        int found = findingOfSlot(slot);
        if (found < 0) {
            return found;
        }
        return slots[slot].lanes != net.lanes ? SIZE : 0;
    }

    // ---- what the calls ask

    private static boolean isKind(int kind) {
        return kind >= 0 && kind < KINDS;
    }

    private static boolean isCrate(int c) {
        return c >= 0 && c < CRATES;
    }

    private static boolean isSlot(int slot) {
        return slot >= 0 && slot < SLOTS;
    }

    private static boolean isIn(long set, int i) {
        return ((set >>> i) & 1) != 0;
    }

    private static boolean isUnder(int kind, int above) {
        int at = kind;
        for (int level = 0; level < KINDS && isKind(at); level++) {
            if (at == above) {
                return true;
            }
            at = KIND_ABOVE[at];
        }
        return false;
    }

    private static boolean changesPlaces(int kind, int placeA, int placeB) {
        switch (kind) {
            case COMPARER:
                return placeA > placeB;
            case BACKWARD:
                return placeB > placeA;
            default:
                return kind == CROSSED;
        }
    }

    private boolean areLanePairs(int taken) {
        for (int i = 0; i + 1 < taken; i += 2) {
            int a = waiting[i];
            int b = waiting[i + 1];
            if (!net.hasLane(a) || !net.hasLane(b) || a >= b) {
                return false;
            }
        }
        return true;
    }

    /** The last round of the first so many comparers; each lane's own last one is in laneNumbers. */
    private int lastRound(int comparers) {
        for (int lane = 0; lane < MOST_LANES; lane++) {
            laneNumbers[lane] = 0;
        }
        int last = 0;
        for (int i = 0; i < comparers && i < net.count; i++) {
            int a = net.low(i);
            int b = net.high(i);
            int round = Math.max(laneNumbers[a], laneNumbers[b]) + 1;
            laneNumbers[a] = round;
            laneNumbers[b] = round;
            last = Math.max(last, round);
        }
        return last;
    }

    /** The rows of a block that come out not rising when comparer stuck is made STUCK. */
    private long failingRows(int block, int stuck) {
        rows.start(net.lanes, block);
        rows.pass(net, stuck);
        return rows.falling(0, net.lanes);
    }

    private int leastFailing(int stuck) {
        for (int block = 0; block < Rows.blocks(net.lanes); block++) {
            long failing = failingRows(block, stuck);
            if (failing != 0) {
                return Rows.leastOf(failing, block);
            }
        }
        return NONE;
    }

    /** Bit i tells that comparer i changes lanes of two loads for some row. */
    private long busyComparers() {
        long busy = 0;
        for (int block = 0; block < Rows.blocks(net.lanes); block++) {
            rows.start(net.lanes, block);
            for (int i = 0; i < net.count; i++) {
                int kind = net.actingKind(i);
                if (rows.changing(kind, net.low(i), net.high(i)) != 0) {
                    busy |= 1L << i;
                }
                rows.step(kind, net.low(i), net.high(i));
            }
        }
        return busy;
    }

    private void findCompletion() {
        rows.start(net.lanes, 0);
        rows.pass(net, NO_COMPARER);
        completion.find(net.lanes, rows.packed(net.lanes));
    }

    /** Lanes and a row of comparers; a net without lanes is none. */
    private static final class Net {
        private static final int PART = 7;
        private static final int LOW_SHIFT = 3;
        private static final int HIGH_SHIFT = 6;
        private static final int SWITCH_BIT = 512;

        int lanes = 0;
        int count = 0;
        /** Kind, both lanes and switch of each in one number, so that a net is copied in one go. */
        final int[] comparers = new int[MOST_COMPARERS];

        boolean isNone() {
            return lanes == 0;
        }

        boolean has(int i) {
            return i >= 0 && i < count;
        }

        boolean hasLane(int lane) {
            return lane >= 0 && lane < lanes;
        }

        int kind(int i) {
            return comparers[i] & PART;
        }

        int low(int i) {
            return (comparers[i] >> LOW_SHIFT) & PART;
        }

        int high(int i) {
            return (comparers[i] >> HIGH_SHIFT) & PART;
        }

        int switchOf(int i) {
            return (comparers[i] & SWITCH_BIT) != 0 ? 1 : 0;
        }

        /** The kind as which a comparer acts: a GATE as a COMPARER or as STUCK. */
        int actingKind(int i) {
            int kind = kind(i);
            if (kind != GATE) {
                return kind;
            }
            return switchOf(i) == 1 ? COMPARER : STUCK;
        }

        void clear(int n) {
            lanes = n;
            count = 0;
        }

        void add(int kind, int a, int b) {
            write(count, kind, a, b);
            count++;
        }

        void write(int i, int kind, int a, int b) {
            int on = kind == GATE ? SWITCH_BIT : 0;
            comparers[i] = kind | (a << LOW_SHIFT) | (b << HIGH_SHIFT) | on;
        }

        void move(int i, int a, int b) {
            int on = comparers[i] & SWITCH_BIT;
            comparers[i] = kind(i) | (a << LOW_SHIFT) | (b << HIGH_SHIFT) | on;
        }

        void setSwitch(int i, boolean on) {
            comparers[i] = on ? comparers[i] | SWITCH_BIT : comparers[i] & ~SWITCH_BIT;
        }

        void become(Net other) {
            lanes = other.lanes;
            count = other.count;
            System.arraycopy(other.comparers, 0, comparers, 0, other.count);
        }
    }

    /** The nets ahead of the latest acts; the oldest one gives way to a new one. */
    private static final class History {
        private final Net[] nets = new Net[MOST_UNDONE];
        private int free = 0;
        int held = 0;

        History() {
            for (int i = 0; i < MOST_UNDONE; i++) {
                nets[i] = new Net();
            }
        }

        void remember(Net net) {
            nets[free].become(net);
            free = free + 1 < MOST_UNDONE ? free + 1 : 0;
            held = Math.min(held + 1, MOST_UNDONE);
        }

        void giveBack(Net net) {
            if (held > 0) {
                free = free > 0 ? free - 1 : MOST_UNDONE - 1;
                held--;
                net.become(nets[free]);
            }
        }
    }

    /** A row of loads of one kind, each held as the long that load() tells; of kind 0 it is missing. */
    private static final class Crate {
        private static final int FLOAT_SIZE_BITS = 0x7fffffff;
        private static final int FLOAT_INFINITY = 0x7f800000;
        private static final int FLOAT_NO_NUMBER = 0x7fc00000;
        private static final long DOUBLE_SIZE_BITS = 0x7fffffffffffffffL;
        private static final long DOUBLE_INFINITY = 0x7ff0000000000000L;
        private static final long DOUBLE_NO_NUMBER = 0x7ff8000000000000L;

        int kind = 0;
        int count = 0;
        final long[] loads = new long[MOST_LOADS];

        boolean isMissing() {
            return kind == 0;
        }

        /** Told without from + n, which could wrap around. */
        boolean hasPart(int from, int n) {
            return from >= 0 && n >= 0 && from <= count - n;
        }

        void renew(int newKind, int n) {
            kind = newKind;
            count = n;
            for (int i = 0; i < MOST_LOADS; i++) {
                loads[i] = 0;
            }
        }

        void write(int i, long v) {
            loads[i] = fitted(kind, v);
        }

        private static long fitted(int kind, long v) {
            switch (kind) {
                case BYTES:
                    return (byte) v;
                case CHARS:
                    return (char) v;
                case SHORTS:
                    return (short) v;
                case INTS:
                    return (int) v;
                case FLOATS:
                    return (((int) v) & FLOAT_SIZE_BITS) > FLOAT_INFINITY ? FLOAT_NO_NUMBER : (int) v;
                case DOUBLES:
                    return (v & DOUBLE_SIZE_BITS) > DOUBLE_INFINITY ? DOUBLE_NO_NUMBER : v;
                default:
                    return v;
            }
        }

        int compare(int i, int k) {
            return Long.compare(rank(loads[i]), rank(loads[k]));
        }

        /**
         * Bits of floats and doubles above 0 rise with their numbers, those below 0 fall: these are
         * turned over. The one that is no number has the greatest bits of all.
         */
        private long rank(long load) {
            boolean turned = kind >= FLOATS && load < 0;
            return turned ? load ^ DOUBLE_SIZE_BITS : load;
        }

        boolean mustChange(int actingKind, int a, int b) {
            switch (actingKind) {
                case COMPARER:
                    return compare(a, b) > 0;
                case BACKWARD:
                    return compare(a, b) < 0;
                default:
                    return actingKind == CROSSED;
            }
        }

        void exchange(int a, int b) {
            long kept = loads[a];
            loads[a] = loads[b];
            loads[b] = kept;
        }
    }

    /**
     * A block of up to 64 rows at once: bit r of a lane's column is what the block's row r has on
     * that lane, so that one step of and, or, not takes all of them through a comparer.
     */
    private static final class Rows {
        static final int IN_BLOCK = 64;
        private static final int LANES_IN_BLOCK = 6;
        /** What the rows 0 to 63 have on lanes 0 to 5. */
        private static final long[] FIRST_COLUMNS = {
            0xAAAAAAAAAAAAAAAAL, 0xCCCCCCCCCCCCCCCCL, 0xF0F0F0F0F0F0F0F0L,
            0xFF00FF00FF00FF00L, 0xFFFF0000FFFF0000L, 0xFFFFFFFF00000000L
        };

        private final long[] columns = new long[MOST_LANES];
        private long all = 0;

        static int blocks(int lanes) {
            return lanes > LANES_IN_BLOCK ? 1 << (lanes - LANES_IN_BLOCK) : 1;
        }

        static int leastOf(long set, int block) {
            return block * IN_BLOCK + Long.bitCount((set & -set) - 1);
        }

        void start(int lanes, int block) {
            all = lanes < LANES_IN_BLOCK ? (1L << (1 << lanes)) - 1 : -1L;
            for (int lane = 0; lane < lanes; lane++) {
                columns[lane] = all & firstColumn(lane, block);
            }
        }

        private static long firstColumn(int lane, int block) {
            if (lane < LANES_IN_BLOCK) {
                return FIRST_COLUMNS[lane];
            }
            return ((block >> (lane - LANES_IN_BLOCK)) & 1) != 0 ? -1L : 0L;
        }

        /** The rows of which a comparer that acts as of a kind changes lanes of two loads. */
        long changing(int actingKind, int a, int b) {
            switch (actingKind) {
                case COMPARER:
                    return columns[a] & ~columns[b];
                case BACKWARD:
                    return columns[b] & ~columns[a];
                default:
                    return actingKind == CROSSED ? all : 0L;
            }
        }

        void step(int actingKind, int a, int b) {
            long unlike = changing(actingKind, a, b) & (columns[a] ^ columns[b]);
            columns[a] ^= unlike;
            columns[b] ^= unlike;
        }

        /** Through all comparers of a net but the one numbered stuck. */
        void pass(Net net, int stuck) {
            for (int i = 0; i < net.count; i++) {
                if (i != stuck) {
                    step(net.actingKind(i), net.low(i), net.high(i));
                }
            }
        }

        /** The rows that are not rising on the lanes from .. to - 1. */
        long falling(int from, int to) {
            long falling = 0;
            for (int lane = from; lane + 1 < to; lane++) {
                falling |= columns[lane] & ~columns[lane + 1];
            }
            return falling;
        }

        long differing(Rows other, int lanes) {
            long differing = 0;
            for (int lane = 0; lane < lanes; lane++) {
                differing |= columns[lane] ^ other.columns[lane];
            }
            return differing;
        }

        int numberOf(int row, int lanes) {
            int number = 0;
            for (int lane = 0; lane < lanes; lane++) {
                number |= (int) ((columns[lane] >>> row) & 1) << lane;
            }
            return number;
        }

        /** The columns of up to four lanes, of 16 rows each, in one number. */
        long packed(int lanes) {
            long packed = 0;
            for (int lane = 0; lane < lanes && lane < MOST_LANES_SEARCHED; lane++) {
                packed |= columns[lane] << (lane * Completion.COLUMN_BITS);
            }
            return packed;
        }
    }

    /** The first of the shortest rows of COMPARERS behind which all rows of up to four lanes rise. */
    private static final class Completion {
        static final int COLUMN_BITS = 16;
        private static final long COLUMN = 0xFFFFL;

        /** 10 a and b of each one. */
        final int[] pairs = new int[MOST_MISSING];
        int fewest = 0;
        private int knownLanes = 0;
        private long knownColumns = 0;

        /** What was found last is kept, since missing() and next() are asked of one net in turn. */
        void find(int lanes, long columns) {
            if (lanes == knownLanes && columns == knownColumns) {
                return;
            }
            knownLanes = lanes;
            knownColumns = columns;
            boolean found = false;
            for (int length = 0; length <= MOST_MISSING && !found; length++) {
                found = completes(columns, lanes, 0, length, pairs);
                fewest = length;
            }
        }

        /** Whether the pairs from at to length - 1 can be chosen so that all rows rise. */
        private static boolean completes(long columns, int lanes, int at, int length, int[] pairs) {
            if (at >= length || at >= pairs.length) {
                return areRising(columns, lanes);
            }
            for (int a = 0; a < lanes; a++) {
                for (int b = a + 1; b < lanes; b++) {
                    long behind = compared(columns, a, b);
                    pairs[at] = 10 * a + b;
                    // One that changes nothing could be left out, so it is in no shortest row.
                    if (behind != columns && completes(behind, lanes, at + 1, length, pairs)) {
                        return true;
                    }
                }
            }
            return false;
        }

        private static long column(long columns, int lane) {
            return (columns >>> (lane * COLUMN_BITS)) & COLUMN;
        }

        private static long compared(long columns, int a, int b) {
            long changing = column(columns, a) & ~column(columns, b);
            return columns ^ (changing << (a * COLUMN_BITS)) ^ (changing << (b * COLUMN_BITS));
        }

        private static boolean areRising(long columns, int lanes) {
            for (int lane = 0; lane + 1 < lanes; lane++) {
                if ((column(columns, lane) & ~column(columns, lane + 1)) != 0) {
                    return false;
                }
            }
            return true;
        }
    }
}
