/** The edges of promises 10 to 16: crates and how their loads are ordered. */
public final class CrateEdgeTest {
    private static final int BEYOND = Edges.BEYOND;
    private static final int MISSING = Edges.MISSING;
    private static final int SIZE = Edges.SIZE;
    private static final int KIND = Edges.KIND;
    private static final int LEAST = Edges.LEAST;
    private static final int MOST = Edges.MOST;
    private static final Edges.Part CRATES = Edges.Part.CRATES;

    private static final long NO_FLOAT = 0x7fc00000L;
    private static final long NO_DOUBLE = 0x7ff8000000000000L;
    private static final long MINUS_0_FLOAT = -2147483648L;
    private static final long MINUS_0_DOUBLE = Long.MIN_VALUE;

    /** For each kind (from 1 on) loads that rise, the least and the greatest of all at the ends. */
    private static final long[][] RISING = {
        {-128, -127, -1, 0, 1, 126, 127},
        {0, 1, 127, 128, 32767, 32768, 65534, 65535},
        {-32768, -32767, -1, 0, 1, 32766, 32767},
        {-2147483648L, -2147483647L, -1, 0, 1, 2147483646L, 2147483647L},
        {Long.MIN_VALUE, Long.MIN_VALUE + 1, -1, 0, 1, Long.MAX_VALUE - 1, Long.MAX_VALUE},
        {0xff800000L, 0xff7fffffL, 0xbf800000L, 0x80000001L, 0x80000000L, 0, 1, 0x3f800000L, 0x7f7fffffL,
            0x7f800000L, NO_FLOAT},
        {0xfff0000000000000L, 0xffefffffffffffffL, 0xbff0000000000000L, 0x8000000000000001L, MINUS_0_DOUBLE, 0, 1,
            0x3ff0000000000000L, 0x7fefffffffffffffL, 0x7ff0000000000000L, NO_DOUBLE}
    };

    private static final Edges EDGES = new Edges();

    private static void due(String call, long want, long got) {
        EDGES.due(call, want, got);
    }

    private static void dueLoads(LaneNets x, int c, long... loads) {
        for (int i = 0; i < loads.length; i++) {
            due("load(" + c + ", " + i + ")", loads[i], x.load(c, i));
        }
        due("load behind the last", Long.MIN_VALUE, x.load(c, loads.length));
    }

    public static void main(String[] args) {
        crateTaken();
        crateIsNew();
        crateMissing();
        crateRefused();
        putOfWholeNumbers();
        putOfFloats();
        putOfDoubles();
        putRefused();
        loadTaken();
        loadRefused();
        copyTaken();
        copyOfTheSame();
        copyRefused();
        copyRefusedByKind();
        copyRefusedByPart();
        runTaken();
        runOfKinds();
        runRefused();
        rises();
        risesRefused();
        order();
        orderRefused();
        EDGES.end();
    }

    private static void crateTaken() {
        EDGES.sentence(10, "a crate has n loads, all 0, of a kind: n");
        for (int c = 0; c < 6; c++) {
            for (int kind = 1; kind < 8; kind++) {
                for (int n = 0; n <= 12; n += n == 1 ? 10 : 1) {
                    LaneNets x = Edges.made(Scenes::full);
                    String text = "crate(" + c + ", " + kind + ", " + n + ")";
                    due(text, n, x.crate(c, kind, n));
                    dueLoads(x, c, new long[n]);
                    due("told(3)", 1, x.told(3));
                }
            }
        }
        EDGES.done(Scenes::rich, "crate(0, 1, 0)", x -> x.crate(0, 1, 0), 0, CRATES);
        EDGES.done(Scenes::rich, "crate(5, 7, 12)", x -> x.crate(5, 7, 12), 12, CRATES);
        EDGES.sentence(10, "a crate of no loads is not MISSING");
        EDGES.asked(Scenes.crateOf(4), "rises(0)", x -> x.rises(0), 1);
        EDGES.refused(Scenes.crateOf(4), "put(0, 0, 1)", x -> x.put(0, 0, 1), BEYOND);
    }

    private static void crateIsNew() {
        EDGES.sentence(10, "all 0: also of a crate that had loads");
        LaneNets x = Edges.made(Scenes.crateOf(4, 1, 2, 3, 4, 5, 6, 7, 8, 9, 10, 11, 12));
        due("crate(0, 4, 3)", 3, x.crate(0, 4, 3));
        dueLoads(x, 0, 0, 0, 0);
        due("crate(0, 4, 12)", 12, x.crate(0, 4, 12));
        dueLoads(x, 0, new long[12]);
        EDGES.sentence(10, "of a kind: also of a crate of another one");
        due("crate(0, 1, 1)", 1, x.crate(0, 1, 1));
        x.put(0, 0, 128);
        dueLoads(x, 0, -128);
        due("crate(0, 2, 1)", 1, x.crate(0, 2, 1));
        x.put(0, 0, -1);
        dueLoads(x, 0, 65535);
        EDGES.sentence(10, "a crate: the others stay");
        LaneNets six = Edges.made(Scenes::full);
        six.crate(3, 1, 2);
        due("load(2, 0)", 3, six.load(2, 0));
        due("load(2, 11)", 2, six.load(2, 11));
        due("load(4, 0)", 3, six.load(4, 0));
        due("load(4, 11)", 2, six.load(4, 11));
    }

    private static void crateMissing() {
        EDGES.sentence(10, "kind 0: it is MISSING: 0");
        for (int n : new int[] {0, 1, 12}) {
            EDGES.done(Scenes::fresh, "crate(0, 0, " + n + ")", x -> x.crate(0, 0, n), 0);
            EDGES.done(Scenes::rich, "crate(5, 0, " + n + "), MISSING", x -> x.crate(5, 0, n), 0);
            EDGES.done(Scenes::rich, "crate(0, 0, " + n + ")", x -> x.crate(0, 0, n), 0, CRATES);
            LaneNets x = Edges.made(Scenes::rich);
            x.crate(0, 0, n);
            due("rises(0)", MISSING, x.rises(0));
            due("put(0, 0, 1)", MISSING, x.put(0, 0, 1));
            due("run(0)", MISSING, x.run(0));
            due("rises(4)", 1, x.rises(4));
        }
    }

    private static void crateRefused() {
        EDGES.sentence(10, "BEYOND: no such crate, or kind");
        EDGES.refusedEach(Scenes::rich, "crate(?, 1, 1)", (x, v) -> x.crate(v, 1, 1), BEYOND, -1, LEAST, 6, MOST);
        EDGES.refusedEach(Scenes::rich, "crate(?, 0, 0)", (x, v) -> x.crate(v, 0, 0), BEYOND, -1, LEAST, 6, MOST);
        EDGES.refusedEach(Scenes::full, "crate(0, ?, 1)", (x, v) -> x.crate(0, v, 1), BEYOND, -1, LEAST, 8, MOST);
        EDGES.sentence(10, "SIZE: n is below 0 (with kind 0, too)");
        EDGES.refusedEach(Scenes::rich, "crate(0, 4, ?)", (x, v) -> x.crate(0, 4, v), SIZE, -1, -2, LEAST);
        EDGES.refusedEach(Scenes::rich, "crate(0, 0, ?)", (x, v) -> x.crate(0, 0, v), SIZE, -1, -2, LEAST);
        EDGES.refusedEach(Scenes::full, "crate(5, 7, ?)", (x, v) -> x.crate(5, 7, v), SIZE, -1, LEAST);
        EDGES.sentence(10, "BEYOND: n is above 12 (likewise)");
        EDGES.refusedEach(Scenes::rich, "crate(0, 4, ?)", (x, v) -> x.crate(0, 4, v), BEYOND, 13, 14, MOST);
        EDGES.refusedEach(Scenes::rich, "crate(0, 0, ?)", (x, v) -> x.crate(0, 0, v), BEYOND, 13, 14, MOST);
        EDGES.refusedEach(Scenes::full, "crate(5, 7, ?)", (x, v) -> x.crate(5, 7, v), BEYOND, 13, MOST);
        EDGES.sentence(10, "BEYOND of crate or kind ahead of SIZE");
        EDGES.refusedEach(Scenes::rich, "crate(6, 1, ?)", (x, v) -> x.crate(6, 1, v), BEYOND, -1, LEAST, 13);
        EDGES.refusedEach(Scenes::rich, "crate(-1, 0, ?)", (x, v) -> x.crate(-1, 0, v), BEYOND, -1, LEAST, 13);
        EDGES.refusedEach(Scenes::rich, "crate(0, 8, ?)", (x, v) -> x.crate(0, 8, v), BEYOND, -1, LEAST, 13);
        EDGES.refusedEach(Scenes::rich, "crate(0, -1, ?)", (x, v) -> x.crate(0, -1, v), BEYOND, -1, LEAST, 13);
    }

    private static void duePut(int kind, long v, long load) {
        Edges.Scene scene = Scenes.crateOf(kind, 1, 1, 1);
        LaneNets x = Edges.made(scene);
        due("put(0, 1, " + v + ") of kind " + kind, 0, x.put(0, 1, v));
        due("load(0, 1) behind put(0, 1, " + v + ") of kind " + kind, load, x.load(0, 1));
        due("load(0, 0)", 1, x.load(0, 0));
        due("load(0, 2)", 1, x.load(0, 2));
        due("told(3)", 0, x.told(3));
    }

    private static void putOfWholeNumbers() {
        EDGES.sentence(11, "of 1 to 5 its lowest bits");
        long[][] bytes = {{127, 127}, {128, -128}, {-128, -128}, {-129, 127}, {255, -1}, {256, 0}, {-256, 0},
            {Long.MAX_VALUE, -1}, {Long.MIN_VALUE, 0}, {0x7fffffffffffff80L, -128}};
        long[][] chars = {{65535, 65535}, {65536, 0}, {-1, 65535}, {-65535, 1}, {32768, 32768},
            {Long.MAX_VALUE, 65535}, {Long.MIN_VALUE, 0}};
        long[][] shorts = {{32767, 32767}, {32768, -32768}, {-32768, -32768}, {-32769, 32767}, {65535, -1},
            {65536, 0}, {Long.MAX_VALUE, -1}, {Long.MIN_VALUE, 0}};
        long[][] ints = {{2147483647L, 2147483647L}, {2147483648L, -2147483648L}, {-2147483648L, -2147483648L},
            {-2147483649L, 2147483647L}, {4294967295L, -1}, {4294967296L, 0}, {Long.MAX_VALUE, -1},
            {Long.MIN_VALUE, 0}};
        long[][] longs = {{Long.MAX_VALUE, Long.MAX_VALUE}, {Long.MIN_VALUE, Long.MIN_VALUE}, {-1, -1},
            {0x7ff0000000000001L, 0x7ff0000000000001L}};
        long[][][] all = {bytes, chars, shorts, ints, longs};
        for (int kind = 1; kind < 6; kind++) {
            for (long[] pair : all[kind - 1]) {
                duePut(kind, pair[0], pair[1]);
            }
        }
    }

    private static void putOfFloats() {
        EDGES.sentence(11, "of 6 the number whose bits the lowest 32 of v are");
        long[] numbers = {0, 1, 0x007fffffL, 0x00800000L, 0x3f800000L, 0x7f7fffffL, 0x7f800000L, 0x80000000L,
            0x80000001L, 0xbf800000L, 0xff7fffffL, 0xff800000L};
        for (long bits : numbers) {
            duePut(6, bits, (int) bits);
            duePut(6, bits | 0xffffffff00000000L, (int) bits);
            duePut(6, bits | 0x7ff0000100000000L, (int) bits);
        }
        duePut(6, Long.MIN_VALUE, 0);
        EDGES.sentence(11, "of 6 any that is no number is the usual one");
        long[] noNumbers = {0x7f800001L, 0x7fbfffffL, 0x7fc00000L, 0x7fc00001L, 0x7fffffffL, 0xff800001L, 0xffc00000L,
            0xffffffffL};
        for (long bits : noNumbers) {
            duePut(6, bits, NO_FLOAT);
            duePut(6, bits | 0xffffffff00000000L, NO_FLOAT);
        }
        duePut(6, Long.MAX_VALUE, NO_FLOAT);
    }

    private static void putOfDoubles() {
        EDGES.sentence(11, "of 7 that whose bits v is");
        long[] numbers = {0, 1, 0x000fffffffffffffL, 0x0010000000000000L, 0x3ff0000000000000L, 0x7fefffffffffffffL,
            0x7ff0000000000000L, Long.MIN_VALUE, 0x8000000000000001L, 0xbff0000000000000L, 0xffefffffffffffffL,
            0xfff0000000000000L, 0x7f800001L, 0xff800001L};
        for (long bits : numbers) {
            duePut(7, bits, bits);
        }
        EDGES.sentence(11, "of 7 any that is no number is the usual one");
        long[] noNumbers = {0x7ff0000000000001L, 0x7ff7ffffffffffffL, NO_DOUBLE, 0x7ff8000000000001L, Long.MAX_VALUE,
            0xfff0000000000001L, 0xfff8000000000000L, -1};
        for (long bits : noNumbers) {
            duePut(7, bits, NO_DOUBLE);
        }
    }

    private static void putRefused() {
        EDGES.sentence(11, "load i of a crate becomes v: 0");
        EDGES.done(Scenes::full, "put(0, 0, 5)", x -> x.put(0, 0, 5), 0, CRATES);
        EDGES.done(Scenes::full, "put(5, 11, 5)", x -> x.put(5, 11, 5), 0, CRATES);
        EDGES.sentence(11, "BEYOND: no such crate");
        EDGES.refusedEach(Scenes::rich, "put(?, 0, 5)", (x, v) -> x.put(v, 0, 5), BEYOND, -1, LEAST, 6, MOST);
        EDGES.refused(Scenes::rich, "put(6, 99, 5)", x -> x.put(6, 99, 5), BEYOND);
        EDGES.sentence(11, "MISSING");
        EDGES.refused(Scenes::rich, "put(5, 0, 5)", x -> x.put(5, 0, 5), MISSING);
        EDGES.refusedEach(Scenes::fresh, "put(?, 0, 5)", (x, v) -> x.put(v, 0, 5), MISSING, 0, 1, 2, 3, 4, 5);
        EDGES.sentence(11, "MISSING ahead of BEYOND of a load");
        EDGES.refusedEach(Scenes::rich, "put(5, ?, 5)", (x, v) -> x.put(5, v, 5), MISSING, -1, LEAST, 12, MOST);
        EDGES.sentence(11, "BEYOND: no such load");
        EDGES.refusedEach(Scenes::rich, "put(0, ?, 5)", (x, v) -> x.put(0, v, 5), BEYOND, -1, LEAST, 4, 11, MOST);
        EDGES.refusedEach(Scenes::rich, "put(2, ?, 5)", (x, v) -> x.put(2, v, 5), BEYOND, -1, 0, MOST);
        EDGES.refusedEach(Scenes::full, "put(0, ?, 5)", (x, v) -> x.put(0, v, 5), BEYOND, -1, LEAST, 12, MOST);
    }

    private static void loadTaken() {
        EDGES.sentence(12, "load i of a crate (of 6 and 7 its bits, of 6 as an int)");
        EDGES.asked(Scenes::full, "load(0, 0)", x -> x.load(0, 0), 3);
        EDGES.asked(Scenes::full, "load(5, 11)", x -> x.load(5, 11), 2);
        EDGES.asked(Scenes.crateOf(6, 0x80000000L), "-0 of floats", x -> x.load(0, 0), MINUS_0_FLOAT);
        EDGES.asked(Scenes.crateOf(6, 0xff800000L), "the least float", x -> x.load(0, 0), -8388608);
        EDGES.asked(Scenes.crateOf(4, 1, 2), "load(0, 1)", x -> x.load(0, 1), 2);
        EDGES.sentence(12, "Long.MIN_VALUE that is a load is no finding");
        EDGES.asked(Scenes.crateOf(5, Long.MIN_VALUE), "the least long", x -> x.load(0, 0), Long.MIN_VALUE);
        EDGES.asked(Scenes.crateOf(7, MINUS_0_DOUBLE), "-0 of doubles", x -> x.load(0, 0), Long.MIN_VALUE);
    }

    private static void loadRefused() {
        long none = Long.MIN_VALUE;
        EDGES.sentence(12, "Long.MIN_VALUE with a finding (that is counted)");
        EDGES.refusedEach(Scenes::rich, "load(?, 0)", (x, v) -> x.load(v, 0), none, -1, LEAST, 6, MOST);
        EDGES.refusedEach(Scenes::fresh, "load(?, 0)", (x, v) -> x.load(v, 0), none, 0, 1, 2, 3, 4, 5);
        EDGES.refusedEach(Scenes::rich, "load(5, ?)", (x, v) -> x.load(5, v), none, -1, 0, 12, LEAST, MOST);
        EDGES.refusedEach(Scenes::rich, "load(0, ?)", (x, v) -> x.load(0, v), none, -1, LEAST, 4, 11, MOST);
        EDGES.refusedEach(Scenes::rich, "load(2, ?)", (x, v) -> x.load(2, v), none, -1, 0, MOST);
        EDGES.refusedEach(Scenes::full, "load(5, ?)", (x, v) -> x.load(5, v), none, -1, LEAST, 12, MOST);
    }

    private static void copyTaken() {
        EDGES.sentence(13, "n loads of a crate from one on come to another one from one on: n");
        EDGES.done(Scenes::rich, "all of crate 0", x -> x.copy(0, 0, 4, 0, 4), 4, CRATES);
        EDGES.done(Scenes::rich, "the last one", x -> x.copy(0, 3, 4, 4, 1), 1, CRATES);
        LaneNets x = Edges.made(Scenes::rich);
        x.copy(0, 2, 4, 3, 2);
        dueLoads(x, 4, 1, 2, 3, 9, 0);
        dueLoads(x, 0, 9, -5, 9, 0);
        x.copy(4, 0, 0, 0, 4);
        dueLoads(x, 0, 1, 2, 3, 9);
        EDGES.sentence(13, "no loads at all: 0");
        EDGES.done(Scenes::rich, "at the ends", y -> y.copy(0, 4, 4, 5, 0), 0);
        EDGES.done(Scenes::rich, "at the start", y -> y.copy(0, 0, 4, 0, 0), 0);
        EDGES.done(Scenes::rich, "of a crate of no loads", y -> y.copy(2, 0, 2, 0, 0), 0);
        for (int kind = 1; kind < 8; kind++) {
            long[] rising = RISING[kind - 1];
            LaneNets all = Edges.made(Scenes.crateOf(kind, rising));
            all.crate(5, kind, 12);
            EDGES.sentence(13, "loads of each kind come as they are");
            due("copy", rising.length, all.copy(0, 0, 5, 12 - rising.length, rising.length));
            for (int i = 0; i < rising.length; i++) {
                due("load", all.load(0, i), all.load(5, 12 - rising.length + i));
            }
        }
    }

    private static void copyOfTheSame() {
        EDGES.sentence(13, "as they all were; the same one may be");
        Edges.Scene twelve = Scenes.crateOf(4, 1, 2, 3, 4, 5, 6, 7, 8, 9, 10, 11, 12);
        EDGES.done(twelve, "on themselves", x -> x.copy(0, 0, 0, 0, 12), 12);
        LaneNets up = Edges.made(twelve);
        due("copy(0, 0, 0, 1, 11)", 11, up.copy(0, 0, 0, 1, 11));
        dueLoads(up, 0, 1, 1, 2, 3, 4, 5, 6, 7, 8, 9, 10, 11);
        LaneNets down = Edges.made(twelve);
        due("copy(0, 1, 0, 0, 11)", 11, down.copy(0, 1, 0, 0, 11));
        dueLoads(down, 0, 2, 3, 4, 5, 6, 7, 8, 9, 10, 11, 12, 12);
        LaneNets some = Edges.made(twelve);
        due("copy(0, 2, 0, 4, 5)", 5, some.copy(0, 2, 0, 4, 5));
        dueLoads(some, 0, 1, 2, 3, 4, 3, 4, 5, 6, 7, 10, 11, 12);
    }

    private static void copyRefused() {
        EDGES.sentence(13, "BEYOND: no such crate (either)");
        EDGES.refusedEach(Scenes::rich, "copy(?, 0, 0, 0, 1)", (x, v) -> x.copy(v, 0, 0, 0, 1), BEYOND,
            -1, LEAST, 6, MOST);
        EDGES.refusedEach(Scenes::rich, "copy(0, 0, ?, 0, 1)", (x, v) -> x.copy(0, 0, v, 0, 1), BEYOND,
            -1, LEAST, 6, MOST);
        EDGES.refused(Scenes::rich, "copy(6, 0, 6, 0, 0)", x -> x.copy(6, 0, 6, 0, 0), BEYOND);
        EDGES.sentence(13, "BEYOND of a crate ahead of MISSING");
        EDGES.refusedEach(Scenes::rich, "copy(?, 0, 5, 0, 0)", (x, v) -> x.copy(v, 0, 5, 0, 0), BEYOND, -1, 6);
        EDGES.refusedEach(Scenes::rich, "copy(5, 0, ?, 0, 0)", (x, v) -> x.copy(5, 0, v, 0, 0), BEYOND, -1, 6);
        EDGES.sentence(13, "MISSING: one is");
        EDGES.refused(Scenes::rich, "the first", x -> x.copy(5, 0, 0, 0, 0), MISSING);
        EDGES.refused(Scenes::rich, "the other", x -> x.copy(0, 0, 5, 0, 0), MISSING);
        EDGES.refused(Scenes::rich, "both", x -> x.copy(5, 0, 5, 0, 0), MISSING);
        EDGES.sentence(13, "MISSING ahead of BEYOND of loads");
        EDGES.refusedEach(Scenes::rich, "copy(5, ?, 0, 0, 1)", (x, v) -> x.copy(5, v, 0, 0, 1), MISSING, -1, 0, MOST);
        EDGES.refusedEach(Scenes::rich, "copy(0, 0, 5, ?, 1)", (x, v) -> x.copy(0, 0, 5, v, 1), MISSING, -1, 0, MOST);
        EDGES.refusedEach(Scenes::rich, "copy(5, 0, 0, 0, ?)", (x, v) -> x.copy(5, 0, 0, 0, v), MISSING, -1, 13, LEAST);
    }

    private static void copyRefusedByKind() {
        EDGES.sentence(13, "KIND: they are not of one kind");
        for (int k = 1; k < 8; k++) {
            for (int m = 1; m < 8; m++) {
                int kind = k;
                int other = m;
                Edges.Scene scene = x -> {
                    x.crate(0, kind, 2);
                    x.crate(1, other, 2);
                };
                String text = "copy(0, 0, 1, 0, 2) of kinds " + k + " and " + m;
                if (k == m) {
                    EDGES.done(scene, text, x -> x.copy(0, 0, 1, 0, 2), 2);
                } else {
                    EDGES.refused(scene, text, x -> x.copy(0, 0, 1, 0, 2), KIND);
                }
            }
        }
        EDGES.refused(Scenes::rich, "of no loads", x -> x.copy(0, 0, 2, 0, 0), KIND);
        EDGES.sentence(13, "KIND ahead of BEYOND of loads");
        EDGES.refusedEach(Scenes::rich, "copy(0, ?, 1, 0, 1)", (x, v) -> x.copy(0, v, 1, 0, 1), KIND, -1, 4, MOST);
        EDGES.refusedEach(Scenes::rich, "copy(0, 0, 1, ?, 1)", (x, v) -> x.copy(0, 0, 1, v, 1), KIND, -1, 12, MOST);
        EDGES.refusedEach(Scenes::rich, "copy(0, 0, 1, 0, ?)", (x, v) -> x.copy(0, 0, 1, 0, v), KIND, -1, 5, LEAST);
    }

    private static void copyRefusedByPart() {
        EDGES.sentence(13, "BEYOND: one has not so many");
        EDGES.refusedEach(Scenes::rich, "copy(0, 0, 4, 0, ?)", (x, v) -> x.copy(0, 0, 4, 0, v), BEYOND, 5, 13, MOST);
        EDGES.refusedEach(Scenes::rich, "copy(4, 0, 0, 0, ?)", (x, v) -> x.copy(4, 0, 0, 0, v), BEYOND, 5, 13, MOST);
        EDGES.refusedEach(Scenes::rich, "copy(0, ?, 4, 0, 2)", (x, v) -> x.copy(0, v, 4, 0, 2), BEYOND, 3, 4, MOST);
        EDGES.refusedEach(Scenes::rich, "copy(0, 0, 4, ?, 2)", (x, v) -> x.copy(0, 0, 4, v, 2), BEYOND, 4, 5, MOST);
        EDGES.refusedEach(Scenes::rich, "copy(0, ?, 4, 0, 0)", (x, v) -> x.copy(0, v, 4, 0, 0), BEYOND, 5, 12, MOST);
        EDGES.refusedEach(Scenes::rich, "copy(0, 0, 4, ?, 0)", (x, v) -> x.copy(0, 0, 4, v, 0), BEYOND, 6, 12, MOST);
        EDGES.refused(Scenes::rich, "of no loads", x -> x.copy(2, 0, 2, 0, 1), BEYOND);
        EDGES.refusedEach(Scenes::full, "copy(0, ?, 0, 0, 12)", (x, v) -> x.copy(0, v, 0, 0, 12), BEYOND, 1, 12);
        EDGES.sentence(13, "BEYOND: one has not so many, where the sum wraps around");
        EDGES.refused(Scenes::rich, "from", x -> x.copy(0, MOST, 4, 0, MOST), BEYOND);
        EDGES.refused(Scenes::rich, "from", x -> x.copy(0, 1, 4, 0, MOST), BEYOND);
        EDGES.refused(Scenes::rich, "from", x -> x.copy(0, MOST, 4, 0, 1), BEYOND);
        EDGES.refused(Scenes::rich, "to", x -> x.copy(0, 0, 4, MOST, 1), BEYOND);
        EDGES.refused(Scenes::rich, "all", x -> x.copy(0, MOST, 4, MOST, MOST), BEYOND);
        EDGES.refused(Scenes::rich, "all", x -> x.copy(0, LEAST, 4, LEAST, LEAST), BEYOND);
        EDGES.sentence(13, "BEYOND: from, to or n is below 0");
        EDGES.refusedEach(Scenes::rich, "copy(0, ?, 4, 0, 1)", (x, v) -> x.copy(0, v, 4, 0, 1), BEYOND, -1, LEAST);
        EDGES.refusedEach(Scenes::rich, "copy(0, 0, 4, ?, 1)", (x, v) -> x.copy(0, 0, 4, v, 1), BEYOND, -1, LEAST);
        EDGES.refusedEach(Scenes::rich, "copy(0, 0, 4, 0, ?)", (x, v) -> x.copy(0, 0, 4, 0, v), BEYOND, -1, LEAST);
        EDGES.refusedEach(Scenes::rich, "copy(0, ?, 4, 0, 0)", (x, v) -> x.copy(0, v, 4, 0, 0), BEYOND, -1, LEAST);
        EDGES.refusedEach(Scenes::rich, "copy(0, 0, 4, ?, 0)", (x, v) -> x.copy(0, 0, 4, v, 0), BEYOND, -1, LEAST);
        EDGES.refusedEach(Scenes::rich, "copy(0, 4, 4, 4, ?)", (x, v) -> x.copy(0, 4, 4, 4, v), BEYOND, -1, -4);
    }

    private static Edges.Scene falling(int lanes, int loads, int... comparers) {
        return x -> {
            Scenes.net(x, lanes, comparers);
            x.crate(5, 4, loads);
            for (int i = 0; i < loads; i++) {
                x.put(5, i, -i);
            }
        };
    }

    private static void runTaken() {
        EDGES.sentence(14, "the first n loads of a crate are run through the net: how many changed lanes");
        for (int n = 2; n <= 8; n++) {
            EDGES.done(falling(n, n), "run(5), no comparers", x -> x.run(5), 0);
            EDGES.done(falling(n, n, 0, 0, n - 1), "run(5) of just enough", x -> x.run(5), 1, CRATES);
            LaneNets x = Edges.made(falling(n, 12, 0, 0, n - 1));
            x.run(5);
            due("load(5, 0)", 1 - n, x.load(5, 0));
            due("the last lane", 0, x.load(5, n - 1));
            due("behind the lanes", -n, x.load(5, n));
            due("the last load", -11, x.load(5, 11));
        }
        EDGES.sentence(14, "a CROSSED always: also with like loads");
        Edges.Scene like = x -> {
            Scenes.manyOf(3, 40).set(x);
            x.crate(0, 1, 2);
        };
        EDGES.done(like, "run(0) of 40 CROSSED", x -> x.run(0), 40);
        Edges.Scene odd = x -> {
            Scenes.manyOf(3, 39).set(x);
            Scenes.crate(x, 0, 1, 5, 6);
        };
        EDGES.done(odd, "run(0) of 39 CROSSED", x -> x.run(0), 39, CRATES);
        EDGES.sentence(14, "run cannot be undone");
        LaneNets x = Edges.made(odd);
        x.run(0);
        x.undo();
        dueLoads(x, 0, 6, 5);
    }

    private static void runOfKinds() {
        EDGES.term("the lesser load goes to lane a, the other one to b (like ones stay)");
        int[] rising = {0, 1, 0, 1, 0};
        int[] fallen = {1, 0, 0, 1, 1};
        int[] like = {0, 0, 0, 1, 0};
        for (int load = 1; load < 8; load++) {
            long least = RISING[load - 1][0];
            long greatest = RISING[load - 1][RISING[load - 1].length - 1];
            for (int kind = 0; kind < 5; kind++) {
                String text = "kind " + kind + " on loads of kind " + load;
                dueRun(text + ", rising", load, least, greatest, kind, rising[kind]);
                dueRun(text + ", falling", load, greatest, least, kind, fallen[kind]);
                dueRun(text + ", like", load, greatest, greatest, kind, like[kind]);
            }
        }
        LaneNets off = Edges.made(Scenes.crateOf(4, 2, 1));
        off.comparer(4, 0, 1);
        off.turnSwitch(0, false);
        EDGES.term("GATE: with its SWITCH on it is as a COMPARER, else as STUCK");
        due("run(0), off", 0, off.run(0));
        dueLoads(off, 0, 2, 1);
    }

    private static void dueRun(String text, int load, long a, long b, int kind, int changes) {
        LaneNets x = Edges.made(Scenes.crateOf(load, a, b));
        long first = x.load(0, 0);
        long second = x.load(0, 1);
        x.comparer(kind, 0, 1);
        due("run(0), " + text, changes, x.run(0));
        due("load(0, 0), " + text, changes == 1 ? second : first, x.load(0, 0));
        due("load(0, 1), " + text, changes == 1 ? first : second, x.load(0, 1));
    }

    private static void runRefused() {
        EDGES.sentence(14, "BEYOND: no such crate");
        EDGES.refusedEach(Scenes::rich, "run(?)", (x, v) -> x.run(v), BEYOND, -1, LEAST, 6, MOST);
        EDGES.sentence(14, "MISSING");
        EDGES.refused(Scenes::rich, "run(5)", x -> x.run(5), MISSING);
        EDGES.refusedEach(Scenes::fresh, "run(?)", (x, v) -> x.run(v), MISSING, 0, 1, 2, 3, 4, 5);
        EDGES.sentence(14, "SIZE: it has less than n");
        EDGES.refused(Scenes::rich, "run(3) of 3 loads", x -> x.run(3), SIZE);
        EDGES.refused(Scenes::rich, "run(2) of none", x -> x.run(2), SIZE);
        for (int n = 2; n <= 8; n++) {
            EDGES.refused(falling(n, n - 1, 0, 0, 1), "run(5) of one less", x -> x.run(5), SIZE);
            EDGES.refused(falling(n, 0, 0, 0, 1), "run(5) of none", x -> x.run(5), SIZE);
            EDGES.refused(falling(n, n - 1), "run(5) of one less, no comparers", x -> x.run(5), SIZE);
        }
    }

    private static void rises() {
        EDGES.sentence(15, "whether the loads of a crate never fall: 1; else 0");
        EDGES.asked(Scenes.crateOf(4), "no loads", x -> x.rises(0), 1);
        for (int kind = 1; kind < 8; kind++) {
            long[] rising = RISING[kind - 1];
            int last = rising.length - 1;
            EDGES.asked(Scenes.crateOf(kind, rising), "all loads, kind " + kind, x -> x.rises(0), 1);
            EDGES.asked(Scenes.crateOf(kind, rising[0]), "one load", x -> x.rises(0), 1);
            EDGES.asked(Scenes.crateOf(kind, rising[last], rising[last]), "like ones", x -> x.rises(0), 1);
            for (int i = 0; i < last; i++) {
                EDGES.asked(Scenes.crateOf(kind, rising[i + 1], rising[i]), "kind " + kind + " from " + rising[i + 1],
                    x -> x.rises(0), 0);
            }
        }
        EDGES.asked(Scenes.crateOf(4, 1, 0, 0, 0, 0, 0, 0, 0, 0, 0, 0, 1), "the first of 12 falls", x -> x.rises(0), 0);
        EDGES.asked(Scenes.crateOf(4, 0, 0, 0, 0, 0, 0, 0, 0, 0, 0, 1, 0), "the last of 12 falls", x -> x.rises(0), 0);
        EDGES.asked(Scenes.crateOf(4, 0, 0, 0, 0, 0, 0, 0, 0, 0, 0, 0, 1), "12 that rise", x -> x.rises(0), 1);
        EDGES.sentence(15, "the loads of a crate, not of the lanes alone");
        EDGES.asked(falling(2, 3), "rises(5)", x -> x.rises(5), 0);
        EDGES.asked(Scenes.crateOf(4, 1, 2, 0), "rises(0)", x -> x.rises(0), 0);
    }

    private static void risesRefused() {
        EDGES.sentence(15, "BEYOND. MISSING");
        EDGES.refusedEach(Scenes::rich, "rises(?)", (x, v) -> x.rises(v), BEYOND, -1, LEAST, 6, MOST);
        EDGES.refusedEach(Scenes::fresh, "rises(?)", (x, v) -> x.rises(v), MISSING, 0, 1, 2, 3, 4, 5);
        EDGES.refused(Scenes::rich, "rises(5)", x -> x.rises(5), MISSING);
        EDGES.asked(Scenes::full, "rises(5)", x -> x.rises(5), 0);
    }

    private static void order() {
        EDGES.sentence(16, "9 below, 10 like it, 11 above");
        for (int kind = 1; kind < 8; kind++) {
            long[] rising = RISING[kind - 1];
            LaneNets x = Edges.made(Scenes.crateOf(kind, rising));
            for (int i = 0; i < rising.length; i++) {
                for (int k = 0; k < rising.length; k++) {
                    int want = i < k ? 9 : i == k ? 10 : 11;
                    due("order(0, " + i + ", " + k + ") of kind " + kind, want, x.order(0, i, k));
                }
            }
        }
        EDGES.asked(Scenes.crateOf(4, 7, 7), "like loads", x -> x.order(0, 0, 1), 10);
        EDGES.asked(Scenes.crateOf(6, 0x7f800001L, 0xffffffffL), "no numbers", x -> x.order(0, 0, 1), 10);
        EDGES.asked(Scenes.crateOf(7, 0x7ff0000000000001L, -1), "no numbers", x -> x.order(0, 1, 0), 10);
        EDGES.asked(Scenes::full, "order(5, 0, 11)", x -> x.order(5, 0, 11), 11);
        EDGES.asked(Scenes::full, "order(0, 11, 0)", x -> x.order(0, 11, 0), 9);
    }

    private static void orderRefused() {
        EDGES.sentence(16, "BEYOND: no such crate");
        EDGES.refusedEach(Scenes::rich, "order(?, 0, 0)", (x, v) -> x.order(v, 0, 0), BEYOND, -1, LEAST, 6, MOST);
        EDGES.sentence(16, "MISSING, ahead of BEYOND of a load");
        EDGES.refusedEach(Scenes::fresh, "order(?, 0, 0)", (x, v) -> x.order(v, 0, 0), MISSING, 0, 1, 2, 3, 4, 5);
        EDGES.refusedEach(Scenes::rich, "order(5, ?, 0)", (x, v) -> x.order(5, v, 0), MISSING, 0, -1, LEAST, MOST);
        EDGES.refusedEach(Scenes::rich, "order(5, 0, ?)", (x, v) -> x.order(5, 0, v), MISSING, 0, -1, LEAST, MOST);
        EDGES.sentence(16, "BEYOND: no such load (either)");
        EDGES.refusedEach(Scenes::rich, "order(0, ?, 0)", (x, v) -> x.order(0, v, 0), BEYOND, -1, LEAST, 4, 11, MOST);
        EDGES.refusedEach(Scenes::rich, "order(0, 0, ?)", (x, v) -> x.order(0, 0, v), BEYOND, -1, LEAST, 4, 11, MOST);
        EDGES.refusedEach(Scenes::rich, "order(0, ?, ?)", (x, v) -> x.order(0, v, v), BEYOND, -1, LEAST, 4, MOST);
        EDGES.refused(Scenes::rich, "order(2, 0, 0)", x -> x.order(2, 0, 0), BEYOND);
        EDGES.refusedEach(Scenes::full, "order(5, ?, 11)", (x, v) -> x.order(5, v, 11), BEYOND, -1, 12, LEAST, MOST);
        EDGES.refusedEach(Scenes::full, "order(5, 11, ?)", (x, v) -> x.order(5, 11, v), BEYOND, -1, 12, LEAST, MOST);
    }
}
