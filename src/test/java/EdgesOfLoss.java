/** Edges of promises 19 to 25. */
final class EdgesOfLoss {
    private static final long R = Edge.R;
    private static final int MIN = Edge.MIN;
    private static final int MAX = Edge.MAX;
    private static final String ONE = EdgesOfTerms.ONE;
    private static final String EIGHT = EdgesOfTerms.EIGHT;
    private static final String SQUARE = EdgesOfTerms.SQUARE;
    private static final String TOUCHING = EdgesOfTerms.TOUCHING;
    private static final String OPEN = EdgesOfTerms.OPEN;
    private static final String FIXED = EdgesOfTerms.FIXED;
    private static final int[] NOT_ONE_OF_TWO = {-1, 2, MIN, MAX};

    private final Edge edge;

    EdgesOfLoss(Edge edge) {
        this.edge = edge;
    }

    void check() {
        lost();
        lengths();
        lengthsNone();
        worst();
        order();
        likely();
        parcel();
        parcelAbove();
        cut();
        cutRefused();
    }

    private void lost() {
        edge.of(19, "LOST: east (what 0), north (1).");
        edge.reads("s1,2*3;s-4,5*1;", x -> x.lost(0, 0), 40);
        edge.reads("s1,2*3;s-4,5*1;", x -> x.lost(0, 1), -50);
        edge.reads("s1,2*3;s-4,5*1;", x -> x.lost(1, 0), -30);
        edge.of(19, "Refused as told: -1; -2.");
        edge.refuses(OPEN, x -> x.lost(2, 0), R + 1);
        edge.refuses(OPEN, x -> x.lost(-1, 2), R + 1);
        edge.refuses(OPEN, x -> x.lost(MAX, 0), R + 1);
        edge.refuses(OPEN, x -> x.lost(MIN, 0), R + 1);
        edge.refuses("", x -> x.lost(0, 0), R + 1);
        for (int other : NOT_ONE_OF_TWO) {
            edge.refuses(OPEN, x -> x.lost(1, other), R + 2);
            edge.refuses(OPEN, x -> x.lost(2, other), R + 1);
        }
        edge.reads(FIXED, x -> x.lost(0, 0), 10);
    }

    private void lengths() {
        edge.of(20, "LENGTHS: x (what 0), y (1).");
        String text = "s2,0*1;s0,3*1;s-5,-7*1;s0,-1*3;";
        edge.readsFraction(text, (x, part) -> x.lengths(0, 1, 0, part), 5, 2);
        edge.readsFraction(text, (x, part) -> x.lengths(0, 1, 1, part), 10, 3);
        edge.readsFraction(text, (x, part) -> x.lengths(1, 0, 0, part), 10, 3);
        edge.of(20, "Refused as told: -1 either (one twice, too); -2 (what, part);");
        edge.refuses(text, x -> x.lengths(4, 1, 0, 0), R + 1);
        edge.refuses(text, x -> x.lengths(1, 4, 0, 0), R + 1);
        edge.refuses(text, x -> x.lengths(-1, 1, 0, 0), R + 1);
        edge.refuses(text, x -> x.lengths(1, -1, 0, 0), R + 1);
        edge.refuses(text, x -> x.lengths(MAX, 1, 2, 2), R + 1);
        edge.refuses(text, x -> x.lengths(1, MIN, 2, 2), R + 1);
        edge.refuses(text, x -> x.lengths(0, 0, 0, 0), R + 1);
        edge.refuses(text, x -> x.lengths(3, 3, 2, 2), R + 1);
        edge.refuses(ONE, x -> x.lengths(0, 1, 0, 0), R + 1);
        edge.refuses("", x -> x.lengths(0, 1, 0, 0), R + 1);
        for (int other : NOT_ONE_OF_TWO) {
            edge.refuses(text, x -> x.lengths(0, 1, other, 0), R + 2);
            edge.refuses(text, x -> x.lengths(0, 1, 0, other), R + 2);
            edge.refuses(text, x -> x.lengths(1, 3, other, 0), R + 2);
            edge.refuses(text, x -> x.lengths(1, 3, 1, other), R + 2);
        }
    }

    private void lengthsNone() {
        edge.of(20, "-3 none.");
        edge.readsFraction("s9,8*1;s8,7*1;", (x, part) -> x.lengths(0, 1, 0, part), 0, 1);
        edge.refuses("s9,8*1;s9,8*2;", x -> x.lengths(0, 1, 0, 0), R + 3);
        edge.refuses("s9,8*1;s-9,-8*2;", x -> x.lengths(1, 0, 1, 1), R + 3);
        edge.refuses("s4,2*1;s2,1*2;", x -> x.lengths(0, 1, 0, 1), R + 3);
        // W does not matter.
        edge.readsFraction(FIXED, (x, part) -> x.lengths(0, 1, 0, part), 1, 1);
        edge.readsFraction(FIXED, (x, part) -> x.lengths(0, 1, 1, part), 1, 1);
    }

    private void worst() {
        edge.of(21, "WORST (what 0; -9), MISS without it (1; -9). -2.");
        edge.reads(SQUARE + "s1,1*1;", x -> x.worst(0), 4);
        edge.reads(SQUARE + "s1,1*1;", x -> x.worst(1), 0);
        edge.reads(SQUARE, x -> x.worst(0), -9);
        edge.reads(SQUARE, x -> x.worst(1), -9);
        edge.reads("", x -> x.worst(0), -9);
        edge.reads("", x -> x.worst(1), -9);
        edge.reads("s1,0*1;k0=4,0;", x -> x.worst(0), 0);
        for (int other : NOT_ONE_OF_TWO) {
            edge.refuses(SQUARE, x -> x.worst(other), -2);
            edge.refuses("", x -> x.worst(other), -2);
        }
    }

    private void order() {
        edge.of(22, "ORDER. -1 (there are not so many, too).");
        edge.reads(OPEN, x -> x.order(0), 1);
        edge.reads(OPEN, x -> x.order(1), 0);
        edge.refuses(OPEN, x -> x.order(2), -1);
        edge.refuses(OPEN, x -> x.order(-1), -1);
        edge.refuses(OPEN, x -> x.order(MAX), -1);
        edge.refuses(OPEN, x -> x.order(MIN), -1);
        edge.refuses("", x -> x.order(0), -1);
        edge.reads(EIGHT, x -> x.order(7), 7);
        edge.refuses(EIGHT, x -> x.order(8), -1);
    }

    private void likely() {
        edge.of(23, "Refused as told: -4 (t below 2; v); -6 (20; 9999); -2.");
        edge.readsFraction(ONE, (x, part) -> x.likely(2, 0, part), 1, 2);
        edge.readsFraction(ONE, (x, part) -> x.likely(20, 0, part), 1, 20);
        edge.readsFraction(ONE, (x, part) -> x.likely(20, 9999, part), 1, 1);
        edge.refuses(ONE, x -> x.likely(1, 0, 0), R + 4);
        edge.refuses(ONE, x -> x.likely(0, 0, 0), R + 4);
        edge.refuses(ONE, x -> x.likely(MIN, 0, 0), R + 4);
        edge.refuses(ONE, x -> x.likely(2, -1, 0), R + 4);
        edge.refuses(ONE, x -> x.likely(2, MIN, 0), R + 4);
        edge.refuses(ONE, x -> x.likely(1, 10000, 2), R + 4);
        edge.refuses(ONE, x -> x.likely(21, -1, 2), R + 4);
        edge.refuses(ONE, x -> x.likely(21, 0, 0), R + 6);
        edge.refuses(ONE, x -> x.likely(MAX, 0, 2), R + 6);
        edge.refuses(ONE, x -> x.likely(20, 10000, 0), R + 6);
        edge.refuses(ONE, x -> x.likely(2, MAX, 2), R + 6);
        for (int other : NOT_ONE_OF_TWO) {
            edge.refuses(ONE, x -> x.likely(2, 0, other), R + 2);
            edge.refuses("", x -> x.likely(20, 9999, other), R + 2);
        }
        edge.of(23, "LIKELY.");
        edge.readsFraction("", (x, part) -> x.likely(20, 9999, part), 1, 1);
        edge.readsFraction(FIXED, (x, part) -> x.likely(2, 0, part), 1, 4);
    }

    private void parcel() {
        edge.of(24, "PARCEL. Refused as told: -1; -4 (k);");
        edge.readsFraction(TOUCHING, (x, part) -> x.parcel(4, 0, part), 0, 1);
        edge.readsFraction(TOUCHING, (x, part) -> x.parcel(4, 3, part), 400, 1);
        edge.refuses(TOUCHING, x -> x.parcel(5, 0, 0), R + 1);
        edge.refuses(TOUCHING, x -> x.parcel(-1, 0, 0), R + 1);
        edge.refuses(TOUCHING, x -> x.parcel(MAX, -1, 2), R + 1);
        edge.refuses(TOUCHING, x -> x.parcel(MIN, 4, 2), R + 1);
        edge.refuses("", x -> x.parcel(0, 0, 0), R + 1);
        edge.refuses(FIXED, x -> x.parcel(3, 0, 0), R + 1);
        edge.refuses(TOUCHING, x -> x.parcel(0, -1, 0), R + 4);
        edge.refuses(TOUCHING, x -> x.parcel(0, MIN, 2), R + 4);
        edge.refuses(ONE, x -> x.parcel(0, -1, 2), R + 4);
        edge.refuses(FIXED, x -> x.parcel(0, -1, 2), R + 4);
    }

    private void parcelAbove() {
        edge.of(24, "-6 (SIDES less 2; also with fewer than 2 SIDES);");
        edge.refuses(TOUCHING, x -> x.parcel(0, 4, 0), R + 6);
        edge.refuses(TOUCHING, x -> x.parcel(0, MAX, 2), R + 6);
        edge.refuses(ONE, x -> x.parcel(0, 0, 0), R + 6);
        edge.refuses("s1,0*1;k0=4,0;", x -> x.parcel(0, 0, 2), R + 6);
        edge.readsFraction(OPEN, (x, part) -> x.parcel(1, 0, part), 0, 1);
        edge.refuses(OPEN, x -> x.parcel(1, 1, 0), R + 6);
        edge.readsFraction(OPEN + "s1,0*1;", (x, part) -> x.parcel(2, 0, part), 0, 1);
        edge.refuses(OPEN + "s1,0*1;", x -> x.parcel(2, 2, 0), R + 6);
        edge.readsFraction(EIGHT, (x, part) -> x.parcel(7, 6, part), 0, 1);
        edge.refuses(EIGHT, x -> x.parcel(7, 7, 0), R + 6);
        edge.refuses(FIXED, x -> x.parcel(0, 2, 2), R + 6);
        edge.of(24, "-2; -3.");
        for (int other : NOT_ONE_OF_TWO) {
            edge.refuses(TOUCHING, x -> x.parcel(4, 3, other), R + 2);
            edge.refuses(FIXED, x -> x.parcel(0, 0, other), R + 2);
        }
        edge.refuses(FIXED, x -> x.parcel(0, 0, 0), R + 3);
        edge.refuses(FIXED, x -> x.parcel(0, 1, 1), R + 3);
    }

    private void cut() {
        edge.of(25, "CUT: the TRIANGLE (what 0; -9: none); how far: above (1), below the line (2) (-9, if none).");
        long[] reached = {2, 1, 1};
        long[] notReached = {-9, -9, -9};
        long[] atNothing = {1, 0, 1};
        for (int i = 0; i <= 2; i++) {
            int what = i;
            edge.reads(SQUARE, x -> x.cut(3, 225, what), reached[what]);
            edge.reads(SQUARE, x -> x.cut(3, 226, what), notReached[what]);
            edge.reads(SQUARE, x -> x.cut(3, 0, what), atNothing[what]);
            edge.reads(OPEN, x -> x.cut(1, 0, what), notReached[what]);
            edge.reads(ONE, x -> x.cut(0, 0, what), notReached[what]);
        }
    }

    private void cutRefused() {
        edge.of(25, "Refused as told: -1; -4 (below -9999); -6 9999; -2; -3.");
        edge.refuses(SQUARE, x -> x.cut(4, 0, 0), R + 1);
        edge.refuses(SQUARE, x -> x.cut(-1, 0, 0), R + 1);
        edge.refuses(SQUARE, x -> x.cut(MAX, 10000, 3), R + 1);
        edge.refuses(SQUARE, x -> x.cut(MIN, -10000, 3), R + 1);
        edge.refuses("", x -> x.cut(0, 0, 0), R + 1);
        edge.refuses(FIXED, x -> x.cut(3, 0, 0), R + 1);
        edge.reads(SQUARE, x -> x.cut(0, -9999, 0), -9);
        edge.refuses(SQUARE, x -> x.cut(0, -10000, 0), R + 4);
        edge.refuses(SQUARE, x -> x.cut(0, MIN, 3), R + 4);
        edge.refuses(FIXED, x -> x.cut(0, -10000, 3), R + 4);
        edge.reads(SQUARE, x -> x.cut(0, 9999, 0), -9);
        edge.refuses(SQUARE, x -> x.cut(0, 10000, 0), R + 6);
        edge.refuses(SQUARE, x -> x.cut(0, MAX, 3), R + 6);
        edge.refuses(FIXED, x -> x.cut(0, 10000, 3), R + 6);
        edge.refuses(ONE, x -> x.cut(0, 10000, 3), R + 6);
        int[] others = {-1, 3, MIN, MAX};
        for (int other : others) {
            edge.refuses(SQUARE, x -> x.cut(0, 0, other), R + 2);
            edge.refuses(FIXED, x -> x.cut(0, 9999, other), R + 2);
            edge.refuses(ONE, x -> x.cut(0, 0, other), R + 2);
        }
        edge.refuses(FIXED, x -> x.cut(0, 0, 0), R + 3);
        edge.refuses(FIXED, x -> x.cut(0, -9999, 2), R + 3);
        edge.refuses("s1,0*1;k0=4,0;", x -> x.cut(0, 0, 0), R + 3);
    }
}
