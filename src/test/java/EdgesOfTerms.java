/** Edges of the first paragraphs of "Terms": SIDES, KINDS, WEIGHTS, CORNERS, AREA, TURN, CROSS, REFUSALS. */
final class EdgesOfTerms {
    private static final long R = Edge.R;
    static final String ONE = "s1,1*1;";
    static final String SEVEN = ONE.repeat(7);
    static final String EIGHT = ONE.repeat(8);
    static final String SQUARE = "s3,0*5;s0,3*5;s-3,0*5;s0,-3*5;";
    /** Corners 0,0; 40,0; 40,20; 20,0; 0,20: corner 3 is on side 0. */
    static final String TOUCHING = "s4,0*1;s0,2*1;s-2,-2*1;s-2,2*1;s0,-2*1;";
    /** Misses by 10, 30; W is 4; corner 1 is 15/2, -15/2. */
    static final String OPEN = "s1,0*1;s0,1*3;";
    /** Closed, but all FIXED: W is 0. */
    static final String FIXED = "s1,0*1;s0,1*1;s-1,-1*1;k0=4,0;k1=4,0;k2=4,0;";

    private final Edge edge;

    EdgesOfTerms(Edge edge) {
        this.edge = edge;
    }

    void check() {
        howManySides();
        figure();
        bearings();
        kinds();
        refusals();
        uncountedRefusals();
        calls();
    }

    private void howManySides() {
        edge.of(0, "SIDES 0 .. as they stand (8 at most)");
        edge.does(SEVEN, x -> x.side(1, 1, 1), 7);
        edge.refuses(EIGHT, x -> x.side(1, 1, 1), -6);
        edge.does(SEVEN, x -> x.insert(6, 1, 1, 1), 6);
        edge.refuses(EIGHT, x -> x.insert(7, 1, 1, 1), -6);
        edge.tells(SEVEN, ONE, 1);
        edge.faults(EIGHT, ONE, -2000);
        edge.tells(SEVEN, "i6:1,1*1;", 1);
        edge.faults(EIGHT, "i0:1,1*1;", -2000);
        edge.reads(EIGHT, x -> x.count(0), 8);
        edge.reads(EIGHT, x -> x.of(0, 4), 1);
        edge.reads(EIGHT, x -> x.of(7, 4), 1);
        edge.refuses(EIGHT, x -> x.of(8, 4), R + 1);
        edge.refuses(EIGHT, x -> x.of(-1, 4), R + 1);
        edge.reads("", x -> x.count(0), 0);
        edge.refuses("", x -> x.of(0, 4), R + 1);
        // Room comes back with a side that is gone.
        TraverseClosed full = Edge.made(EIGHT);
        edge.is(full.gone(0), 7);
        edge.is(full.side(2, 2, 2), 7);
        edge.is(full.side(2, 2, 2), -6);
    }

    private void figure() {
        edge.of(0, "of a KIND with a FIGURE (0 .. 9)");
        edge.does(ONE, x -> x.kind(0, 1, 0), 0);
        edge.does(ONE, x -> x.kind(0, 1, 9), 0);
        edge.does(ONE + "k0=1,9;", x -> x.kind(0, 0, 0), 19);
        edge.refuses(ONE, x -> x.kind(0, 1, -1), -4);
        edge.refuses(ONE, x -> x.kind(0, 1, 10), -6);
        edge.tells(ONE, "k0=1,0;k0=1,9;", 2);
        edge.faults(ONE, "k0=1,10;", -1006);
        edge.faults(ONE, "k0=1,-1;", -1005);
    }

    private void bearings() {
        edge.of(0, "EAST, NORTH (-9 .. 9 each, not both 0), TIMES (1 .. 9)");
        edge.does("", x -> x.side(-9, 9, 1), 0);
        edge.does("", x -> x.side(9, -9, 9), 0);
        edge.refuses("", x -> x.side(-10, 9, 1), -4);
        edge.refuses("", x -> x.side(9, -10, 1), -4);
        edge.refuses("", x -> x.side(10, 9, 1), -6);
        edge.refuses("", x -> x.side(9, 10, 1), -6);
        edge.refuses("", x -> x.side(9, 9, 0), -4);
        edge.refuses("", x -> x.side(9, 9, 10), -6);
        edge.does("", x -> x.side(0, 1, 1), 0);
        edge.does("", x -> x.side(0, -1, 1), 0);
        edge.does("", x -> x.side(1, 0, 1), 0);
        edge.does("", x -> x.side(-1, 0, 1), 0);
        edge.refuses("", x -> x.side(0, 0, 1), -3);
        edge.tells("", "s-9,9*1;s9,-9*9;s0,1*1;s1,0*1;s-0,-1*1;", 5);
        edge.faults("", "s0,0*1;", -2000);
        edge.faults("", "s-0,0*1;", -2000);
        edge.faults("", "s9,9*0;", -2000);
    }

    private void kinds() {
        edge.of(0, "KINDS: 0 SIDE; 1 TAPED under SIDE; 2 PACED under SIDE; 3 CHAINED under TAPED;"
            + " 4 FIXED under SIDE; 5 WHEELED under PACED.");
        edge.does(ONE, x -> x.kind(0, 0, 3), 0);
        edge.does(ONE, x -> x.kind(0, 5, 3), 0);
        edge.does(ONE + "k0=5,3;", x -> x.kind(0, 0, 0), 53);
        edge.refuses(ONE, x -> x.kind(0, -1, 3), -2);
        edge.refuses(ONE, x -> x.kind(0, 6, 3), -2);
        edge.tells(ONE, "k0=0,3;k0=5,3;", 2);
        edge.faults(ONE, "k0=6,3;", -2000);
        edge.faults(ONE, "k0=9,3;", -2000);
        edge.faults(ONE, "k0=-1,3;", -1003);
    }

    private void refusals() {
        edge.of(0, "the first that fits in the order in which it tells them; nothing changes but how many there were");
        // All that can be wrong with a call is, then one thing less each time.
        edge.refuses(ONE, x -> x.kind(1, 6, -1), -1);
        edge.refuses(ONE, x -> x.kind(0, 6, -1), -2);
        edge.refuses(ONE, x -> x.kind(0, 5, -1), -4);
        edge.refuses(EIGHT, x -> x.insert(8, -10, 10, 0), -1);
        edge.refuses(EIGHT, x -> x.insert(7, -10, 10, 0), -4);
        edge.refuses(EIGHT, x -> x.insert(7, 0, 0, 1), -6);
        edge.refuses(SEVEN, x -> x.insert(6, 0, 0, 1), -3);
        edge.of(0, "-1 NOBODY: no such SIDE, CORNER, LIST, one twice.");
        edge.reads(SQUARE, x -> x.turn(3), 1);
        edge.refuses(SQUARE, x -> x.turn(4), -1);
        edge.refuses(SQUARE, x -> x.gone(4), -1);
        edge.does(SQUARE, x -> x.list(2, 0, 1), 1);
        edge.refuses(SQUARE, x -> x.list(3, 0, 1), -1);
        edge.refuses(SQUARE, x -> x.cross(2, 2), -1);
        edge.of(0, "-2 OTHER: what, KIND.");
        edge.does(SQUARE, x -> x.kind(3, 5, 0), 0);
        edge.refuses(SQUARE, x -> x.kind(3, 6, 0), -2);
        edge.reads(SQUARE, x -> x.outline(1), 4);
        edge.refuses(SQUARE, x -> x.outline(2), -2);
        edge.refuses(SQUARE, x -> x.list(2, 2, 1), -2);
        edge.of(0, "-4 BELOW: a number below the least. -6 ROOM: a number above the greatest, no room.");
        edge.does(SQUARE, x -> x.row(0), 3);
        edge.refuses(SQUARE, x -> x.row(-1), -4);
        edge.does(SQUARE, x -> x.row(99), 3);
        edge.refuses(SQUARE, x -> x.row(100), -6);
        edge.refuses(EIGHT, x -> x.side(1, 1, 1), -6);
        edge.refuses(SQUARE, x -> x.parcel(0, 3, 0), R + 6);
        edge.of(0, "-3 STATE: it is not as it must be (W is 0, where CORNERS are asked for, too).");
        edge.reads("s1,0*1;k0=3,0;", x -> x.crosses(), 0);
        edge.refuses("s1,0*1;k0=4,0;", x -> x.crosses(), -3);
        edge.refuses("", x -> x.crosses(), -3);
        edge.of(0, "Of longs 4000000000000000000 less them (-1 as 4000000000000000001).");
        edge.refuses(FIXED, x -> x.spread(3, 0, 0), 4000000000000000001L);
        edge.refuses(FIXED, x -> x.spread(2, 2, 0), 4000000000000000002L);
        edge.refuses(FIXED, x -> x.spread(2, 1, 0), 4000000000000000003L);
        edge.refuses(FIXED, x -> x.likely(1, 0, 0), 4000000000000000004L);
        edge.refuses(FIXED, x -> x.likely(21, 0, 0), 4000000000000000006L);
    }

    private void uncountedRefusals() {
        edge.of(0, "Not counted: of LISTS -11 it is missing, -12 two of unlike sorts, -13 no such place,"
            + " -14 a size below 0 (of longs likewise).");
        edge.refuses(SQUARE, x -> x.put(2, 0, 1), -11);
        edge.refuses(SQUARE, x -> x.copy(0, 0, 1, 0, 1), -12);
        edge.refuses(SQUARE, x -> x.put(0, 9, 1), -13);
        edge.refuses(SQUARE, x -> x.list(0, 0, -1), -14);
        edge.refuses(SQUARE, x -> x.look(2, 0), 4000000000000000011L);
        edge.refuses(SQUARE, x -> x.look(0, 9), 4000000000000000013L);
        edge.of(0, "LISTS 0 .. 2 are rows of longs, or of ints (20 at most), missing at first.");
        TraverseClosed x = new TraverseClosed();
        for (int list = 0; list <= 2; list++) {
            edge.is(x.look(list, 0), R + 11);
            edge.is(x.put(list, 0, 1), -11);
            edge.is(x.list(list, list % 2, 20), 1);
            edge.is(x.put(list, 19, 1), 1);
            edge.is(x.look(list, 20), R + 13);
            edge.is(x.list(list, list % 2, 21), -6);
            edge.is(x.look(list, 19), 1);
        }
        edge.is(x.look(3, 0), R + 1);
        edge.is(x.look(-1, 0), R + 1);
    }

    private void calls() {
        edge.of(0, "An object is used for at most 512 calls after it has been made; what later calls answer is free.");
        TraverseClosed x = new TraverseClosed();
        for (int call = 1; call <= 510; call++) {
            edge.is(x.letter(-1), -4);
        }
        edge.is(x.letter('r'), 1);
        edge.is(x.count(14), 510);
        TraverseClosed changed = new TraverseClosed();
        for (int call = 1; call <= 510; call++) {
            edge.is(changed.turned(), 0);
        }
        edge.is(changed.count(4), 8);
        edge.is(changed.undo(), 7);
    }
}
