/** Edges of promises 11 to 18. */
final class EdgesOfSpread {
    private static final long R = Edge.R;
    private static final int MIN = Edge.MIN;
    private static final int MAX = Edge.MAX;
    private static final String SQUARE = EdgesOfTerms.SQUARE;
    private static final String TOUCHING = EdgesOfTerms.TOUCHING;
    private static final String OPEN = EdgesOfTerms.OPEN;
    private static final String FIXED = EdgesOfTerms.FIXED;
    /** W is 1. */
    private static final String LEAST = "s1,0*1;k0=3,0;";
    private static final int[] NOT_ONE_OF_TWO = {-1, 2, MIN, MAX};

    private final Edge edge;

    EdgesOfSpread(Edge edge) {
        this.edge = edge;
    }

    void check() {
        spread();
        corner();
        area();
        turn();
        cross();
        crosses();
        outline();
        hull();
    }

    private void spread() {
        edge.of(11, "SPREAD STEP of a SIDE: east (what 0), north (1).");
        edge.readsFraction(OPEN, (x, part) -> x.spread(0, 0, part), 15, 2);
        edge.readsFraction(OPEN, (x, part) -> x.spread(1, 1, part), 15, 2);
        edge.of(11, "Refused as told: -1; -2 (what, part); -3.");
        edge.reads(OPEN, x -> x.spread(1, 1, 1), 2);
        edge.refuses(OPEN, x -> x.spread(2, 0, 0), R + 1);
        edge.refuses(OPEN, x -> x.spread(-1, 0, 0), R + 1);
        edge.refuses(OPEN, x -> x.spread(MAX, 2, 2), R + 1);
        edge.refuses(OPEN, x -> x.spread(MIN, -1, -1), R + 1);
        edge.refuses("", x -> x.spread(0, 0, 0), R + 1);
        edge.refuses(FIXED, x -> x.spread(3, 2, 2), R + 1);
        for (int other : NOT_ONE_OF_TWO) {
            edge.refuses(OPEN, x -> x.spread(1, other, 0), R + 2);
            edge.refuses(OPEN, x -> x.spread(1, 0, other), R + 2);
            edge.refuses(FIXED, x -> x.spread(2, other, 0), R + 2);
            edge.refuses(FIXED, x -> x.spread(2, 0, other), R + 2);
        }
        edge.reads(LEAST, x -> x.spread(0, 0, 0), 0);
        edge.refuses(FIXED, x -> x.spread(2, 1, 1), R + 3);
    }

    private void corner() {
        edge.of(12, "A CORNER: east (what 0), north (1).");
        edge.readsFraction(OPEN, (x, part) -> x.corner(0, 0, part), 0, 1);
        edge.readsFraction(OPEN, (x, part) -> x.corner(1, 0, part), 15, 2);
        edge.readsFraction(OPEN, (x, part) -> x.corner(1, 1, part), -15, 2);
        edge.of(12, "Refused as told: -1; -2 (what, part); -3.");
        edge.refuses(OPEN, x -> x.corner(2, 0, 0), R + 1);
        edge.refuses(OPEN, x -> x.corner(-1, 0, 0), R + 1);
        edge.refuses(OPEN, x -> x.corner(MAX, 2, 2), R + 1);
        edge.refuses(OPEN, x -> x.corner(MIN, -1, -1), R + 1);
        edge.refuses("", x -> x.corner(0, 0, 0), R + 1);
        edge.refuses(FIXED, x -> x.corner(3, 2, 2), R + 1);
        for (int other : NOT_ONE_OF_TWO) {
            edge.refuses(OPEN, x -> x.corner(1, other, 0), R + 2);
            edge.refuses(OPEN, x -> x.corner(1, 0, other), R + 2);
            edge.refuses(FIXED, x -> x.corner(2, other, 0), R + 2);
            edge.refuses(FIXED, x -> x.corner(2, 0, other), R + 2);
        }
        edge.reads(LEAST, x -> x.corner(0, 1, 1), 1);
        edge.refuses(FIXED, x -> x.corner(0, 0, 0), R + 3);
    }

    private void area() {
        edge.of(13, "AREA. Refused as told: -2; -3.");
        edge.readsFraction(TOUCHING, (x, part) -> x.area(part), 400, 1);
        for (int other : NOT_ONE_OF_TWO) {
            edge.refuses(TOUCHING, x -> x.area(other), R + 2);
            edge.refuses(FIXED, x -> x.area(other), R + 2);
            edge.refuses("", x -> x.area(other), R + 2);
        }
        edge.readsFraction(LEAST, (x, part) -> x.area(part), 0, 1);
        edge.refuses(FIXED, x -> x.area(0), R + 3);
        edge.refuses(FIXED, x -> x.area(1), R + 3);
        edge.refuses("", x -> x.area(0), R + 3);
    }

    private void turn() {
        edge.of(14, "TURN. -1; -3.");
        edge.reads(TOUCHING, x -> x.turn(0), 1);
        edge.reads(TOUCHING, x -> x.turn(3), 2);
        edge.reads(TOUCHING, x -> x.turn(4), 1);
        edge.refuses(TOUCHING, x -> x.turn(5), -1);
        edge.refuses(TOUCHING, x -> x.turn(-1), -1);
        edge.refuses(TOUCHING, x -> x.turn(MAX), -1);
        edge.refuses(TOUCHING, x -> x.turn(MIN), -1);
        edge.refuses("", x -> x.turn(0), -1);
        edge.refuses(FIXED, x -> x.turn(3), -1);
        edge.reads(LEAST, x -> x.turn(0), 4);
        edge.refuses(FIXED, x -> x.turn(0), -3);
        edge.refuses(FIXED, x -> x.turn(2), -3);
    }

    private void cross() {
        edge.of(15, "Whether two SIDES CROSS: 1, 0.");
        edge.reads(TOUCHING, x -> x.cross(0, 2), 1);
        edge.reads(TOUCHING, x -> x.cross(2, 0), 1);
        edge.reads(TOUCHING, x -> x.cross(1, 3), 0);
        edge.of(15, "-1 either (one twice, too);");
        edge.refuses(TOUCHING, x -> x.cross(5, 2), -1);
        edge.refuses(TOUCHING, x -> x.cross(2, 5), -1);
        edge.refuses(TOUCHING, x -> x.cross(-1, 2), -1);
        edge.refuses(TOUCHING, x -> x.cross(2, -1), -1);
        edge.refuses(TOUCHING, x -> x.cross(2, MAX), -1);
        edge.refuses(TOUCHING, x -> x.cross(MIN, 2), -1);
        edge.refuses(TOUCHING, x -> x.cross(0, 0), -1);
        edge.refuses(TOUCHING, x -> x.cross(4, 4), -1);
        edge.refuses("", x -> x.cross(0, 0), -1);
        edge.refuses("", x -> x.cross(0, 2), -1);
        edge.refuses(FIXED, x -> x.cross(1, 1), -1);
        edge.refuses(FIXED, x -> x.cross(0, 3), -1);
        edge.of(15, "-3 (neighbours, too).");
        edge.refuses(TOUCHING, x -> x.cross(0, 1), -3);
        edge.refuses(TOUCHING, x -> x.cross(1, 0), -3);
        edge.refuses(TOUCHING, x -> x.cross(0, 4), -3);
        edge.refuses(TOUCHING, x -> x.cross(4, 0), -3);
        edge.refuses(OPEN, x -> x.cross(1, 0), -3);
        String still = "s1,0*1;".repeat(4);
        edge.reads(still, x -> x.cross(0, 2), 1);
        edge.refuses(still + "k0=4,0;k1=4,0;k2=4,0;k3=4,0;", x -> x.cross(0, 2), -3);
        edge.refuses(still + "k0=4,0;k1=4,0;k2=4,0;k3=4,0;", x -> x.cross(0, 1), -3);
        // W is 1 with one that is CHAINED.
        edge.reads(still + "k0=4,0;k1=4,0;k2=4,0;k3=3,0;", x -> x.cross(0, 2), 0);
    }

    private void crosses() {
        edge.of(16, "How many pairs CROSS. -3.");
        edge.reads(LEAST, x -> x.crosses(), 0);
        edge.reads(OPEN, x -> x.crosses(), 0);
        edge.reads(SQUARE, x -> x.crosses(), 0);
        edge.reads(TOUCHING, x -> x.crosses(), 2);
        edge.reads("s1,0*1;".repeat(8), x -> x.crosses(), 20);
        edge.refuses(FIXED, x -> x.crosses(), -3);
        edge.refuses("", x -> x.crosses(), -3);
    }

    private void outline() {
        edge.of(17, "OUTLINE (what 0: bits), how many CORNERS it has (1). -2; -3.");
        edge.reads(TOUCHING, x -> x.outline(0), 23);
        edge.reads(TOUCHING, x -> x.outline(1), 4);
        for (int other : NOT_ONE_OF_TWO) {
            edge.refuses(TOUCHING, x -> x.outline(other), -2);
            edge.refuses(FIXED, x -> x.outline(other), -2);
            edge.refuses("", x -> x.outline(other), -2);
        }
        edge.reads(LEAST, x -> x.outline(0), 1);
        edge.reads(LEAST, x -> x.outline(1), 1);
        edge.refuses(FIXED, x -> x.outline(0), -3);
        edge.refuses(FIXED, x -> x.outline(1), -3);
        edge.refuses("", x -> x.outline(0), -3);
        // All 8 CORNERS at the outline.
        edge.reads("s2,0*1;s1,1*1;s0,2*1;s-1,1*1;s-2,0*1;s-1,-1*1;s0,-2*1;s1,-1*1;", x -> x.outline(0), 255);
        edge.reads("s2,0*1;s1,1*1;s0,2*1;s-1,1*1;s-2,0*1;s-1,-1*1;s0,-2*1;s1,-1*1;", x -> x.outline(1), 8);
    }

    private void hull() {
        edge.of(18, "HULL AREA. Refused as told: -2; -3.");
        edge.readsFraction(TOUCHING, (x, part) -> x.hull(part), 800, 1);
        for (int other : NOT_ONE_OF_TWO) {
            edge.refuses(TOUCHING, x -> x.hull(other), R + 2);
            edge.refuses(FIXED, x -> x.hull(other), R + 2);
            edge.refuses("", x -> x.hull(other), R + 2);
        }
        edge.readsFraction(LEAST, (x, part) -> x.hull(part), 0, 1);
        edge.refuses(FIXED, x -> x.hull(0), R + 3);
        edge.refuses(FIXED, x -> x.hull(1), R + 3);
        edge.refuses("", x -> x.hull(1), R + 3);
    }
}
