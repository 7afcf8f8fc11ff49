/** States that the edge tests ask calls in. */
final class Scenes {
    private Scenes() {
    }

    static void fresh(LaneNets x) {
    }

    /**
     * Four lanes and six comparers, of each kind, the last a GATE that is off; slot 0 has this net,
     * 1 one without comparers, 2 one of three lanes, 3 none; crates 0 and 4 ints, 1 floats,
     * 2 bytes but no loads, 3 doubles, 5 MISSING; three numbers wait; eleven acts can be undone.
     */
    static void rich(LaneNets x) {
        net(x, 3, 0, 0, 1, 1, 1, 2);
        x.keep(2);
        x.lanes(4);
        x.keep(1);
        comparers(x, 0, 0, 1, 1, 2, 3, 2, 0, 2, 3, 1, 3, 4, 1, 2, 4, 0, 3);
        x.turnSwitch(5, false);
        x.keep(0);
        crate(x, 0, 4, 9, -5, 9, 0);
        crate(x, 1, 6, 0x3f800000L, 0x80000000L, 0, 0x7fc00000L, 0xbf800000L, 1, 2, 3, 4, 5, 6, 0xff800000L);
        crate(x, 2, 1);
        crate(x, 3, 7, 0x7ff8000000000000L, 0, Long.MIN_VALUE);
        crate(x, 4, 4, 1, 2, 3, 4, 5);
        numbers(x, 0, 1, 1);
    }

    /** All that an object can hold: 8 lanes, 40 comparers, 4 slots, 6 crates of 12, 80 numbers. */
    static void full(LaneNets x) {
        x.lanes(8);
        for (int i = 0; i < 40; i++) {
            x.comparer(i % 5, i % 7, 7 - i % 2 * (6 - i % 7));
        }
        for (int slot = 0; slot < 4; slot++) {
            x.keep(slot);
        }
        for (int c = 0; c < 6; c++) {
            x.crate(c, c + 1, 12);
            x.put(c, 0, 3);
            x.put(c, 11, 2);
        }
        for (int i = 0; i < 80; i++) {
            x.tell(i % 2 * 7);
        }
    }

    /** Lanes, then kind, a, b of each comparer. */
    static void net(LaneNets x, int lanes, int... comparers) {
        x.lanes(lanes);
        comparers(x, comparers);
    }

    static Edges.Scene netOf(int lanes, int... comparers) {
        return x -> net(x, lanes, comparers);
    }

    static void comparers(LaneNets x, int... comparers) {
        for (int i = 0; i + 2 < comparers.length; i += 3) {
            x.comparer(comparers[i], comparers[i + 1], comparers[i + 2]);
        }
    }

    static void crate(LaneNets x, int c, int kind, long... loads) {
        x.crate(c, kind, loads.length);
        for (int i = 0; i < loads.length; i++) {
            x.put(c, i, loads[i]);
        }
    }

    /** Crate 0 of a kind with these loads. */
    static Edges.Scene crateOf(int kind, long... loads) {
        return x -> crate(x, 0, kind, loads);
    }

    static void numbers(LaneNets x, int... numbers) {
        for (int v : numbers) {
            x.tell(v);
        }
    }

    /** So many comparers of a kind, all on lanes 0 and 1. */
    static Edges.Scene manyOf(int kind, int count) {
        return x -> {
            for (int i = 0; i < count; i++) {
                x.comparer(kind, 0, 1);
            }
        };
    }

    /** Comparers of neighbours that sort the lanes from .. to - 1. */
    private static void sortPart(LaneNets x, int from, int to) {
        for (int round = 0; round < to - from; round++) {
            for (int a = from + round % 2; a + 1 < to; a += 2) {
                x.comparer(0, a, a + 1);
            }
        }
    }

    /** A net of neighbours alone that sorts: of n lanes n (n - 1) / 2 comparers. */
    static void sorting(LaneNets x, int n) {
        x.lanes(n);
        sortPart(x, 0, n);
    }

    /**
     * A net of n lanes that sorts but for the one row whose only 0 is on a lane. All lanes but the
     * last are sorted, and what the last one has goes down as far as lane 1: a 0 that all others are
     * 1 above would have to go to lane 0. The CROSSED one ahead brings that 0 from its lane.
     */
    static void failsOnlyOneNought(LaneNets x, int n, int lane) {
        x.lanes(n);
        if (lane < n - 1) {
            x.comparer(3, lane, n - 1);
        }
        sortPart(x, 0, n - 1);
        for (int a = n - 2; a >= 1; a--) {
            x.comparer(0, a, a + 1);
        }
    }

    /** As failsOnlyOneNought, for the one row whose only 1 is on a lane. */
    static void failsOnlyOneOne(LaneNets x, int n, int lane) {
        x.lanes(n);
        if (lane > 0) {
            x.comparer(3, 0, lane);
        }
        sortPart(x, 1, n);
        for (int a = 0; a + 2 < n; a++) {
            x.comparer(0, a, a + 1);
        }
    }
}
