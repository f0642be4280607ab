/** Edges of "Terms" about what is worked out from SIDES. */
final class EdgesOfMeasures {
    private static final long R = Edge.R;
    private static final String SQUARE = EdgesOfTerms.SQUARE;
    private static final String TOUCHING = EdgesOfTerms.TOUCHING;
    private static final String OPEN = EdgesOfTerms.OPEN;
    private static final String FIXED = EdgesOfTerms.FIXED;
    /** Misses by 0, 10; W is 3; steps spread 10,-10/3; 0,20/3; -10,-10/3. */
    private static final String THIRD = "s1,0*1;s0,1*1;s-1,0*1;";
    private static final String POINTS = "s1,0*1;".repeat(4);

    private final Edge edge;

    EdgesOfMeasures(Edge edge) {
        this.edge = edge;
    }

    void check() {
        stretch();
        step();
        weight();
        weights();
        corners();
        areas();
        turns();
        neighbours();
        endsCounted();
        lost();
        lengths();
        worst();
        order();
        outlines();
        hulls();
        parcels();
        cuts();
        cutsNone();
        likely();
        fractions();
    }

    private void stretch() {
        edge.of(0, "STRETCH: 10; of TAPED and CHAINED ones FIGURE more; of WHEELED ones FIGURE less.");
        long[][] want = {{10, 10}, {10, 19}, {10, 10}, {10, 19}, {10, 10}, {10, 1}};
        for (int kind = 0; kind <= 5; kind++) {
            for (int which = 0; which <= 1; which++) {
                String text = "s1,-1*1;k0=" + kind + "," + 9 * which + ";";
                long stretch = want[kind][which];
                edge.reads(text, x -> x.of(0, 6), stretch);
                edge.reads(text, x -> x.of(0, 7), -stretch);
            }
        }
        edge.reads("s1,0*1;k0=1,1;", x -> x.of(0, 6), 11);
        edge.reads("s1,0*1;k0=3,1;", x -> x.of(0, 6), 11);
        edge.reads("s1,0*1;k0=5,1;", x -> x.of(0, 6), 9);
    }

    private void step() {
        edge.of(0, "STEP (in tenths): TIMES times STRETCH times EAST, and so of NORTH.");
        edge.reads("s9,-9*9;k0=1,9;", x -> x.of(0, 6), 1539);
        edge.reads("s9,-9*9;k0=1,9;", x -> x.of(0, 7), -1539);
        edge.reads("s-9,0*9;k0=3,9;", x -> x.of(0, 6), -1539);
        edge.reads("s-9,0*9;k0=3,9;", x -> x.of(0, 7), 0);
        edge.reads("s0,-1*1;k0=5,9;", x -> x.of(0, 6), 0);
        edge.reads("s0,-1*1;k0=5,9;", x -> x.of(0, 7), -1);
    }

    private void weight() {
        edge.of(0, "WEIGHT: TIMES times (EAST and NORTH without their signs, together); of PACED and WHEELED ones"
            + " twice that; of CHAINED ones half of it, cut, 1 at least; of FIXED ones 0.");
        String[] sides = {"s1,0*1;", "s0,-1*1;", "s-1,1*1;", "s1,0*3;", "s2,-2*1;", "s-5,0*1;", "s-9,9*9;"};
        long[] plain = {1, 1, 2, 3, 4, 5, 162};
        long[] chained = {1, 1, 1, 1, 2, 2, 81};
        for (int i = 0; i < sides.length; i++) {
            long[] want = {plain[i], plain[i], 2 * plain[i], chained[i], 0, 2 * plain[i]};
            for (int kind = 0; kind <= 5; kind++) {
                edge.reads(sides[i] + "k0=" + kind + ",9;", x -> x.of(0, 5), want[kind]);
                edge.reads(sides[i] + "k0=" + kind + ",0;", x -> x.of(0, 5), want[kind]);
            }
        }
    }

    private void weights() {
        edge.of(0, "If W is above 0: the SPREAD STEP of a SIDE: its STEP less MISS times its WEIGHT by W (fractions).");
        // W is 1: the CHAINED one takes all of the MISS.
        String one = "s1,0*1;s0,1*1;k0=3,0;k1=4,0;";
        edge.reads(one, x -> x.count(1), 1);
        edge.readsFraction(one, (x, part) -> x.spread(0, 0, part), 0, 1);
        edge.readsFraction(one, (x, part) -> x.spread(0, 1, part), -10, 1);
        edge.readsFraction(one, (x, part) -> x.spread(1, 0, part), 0, 1);
        edge.readsFraction(one, (x, part) -> x.spread(1, 1, part), 10, 1);
        String none = "s1,0*1;s0,1*1;k0=4,0;k1=4,0;";
        edge.reads(none, x -> x.count(1), 0);
        edge.refuses(none, x -> x.spread(0, 0, 0), R + 3);
        edge.reads(none, x -> x.miss(0), 10);
        // W at its greatest: 8 PACED ones of 324.
        String greatest = "s9,-9*9;".repeat(8) + "k0=2,0;k1=2,0;k2=2,0;k3=2,0;k4=2,0;k5=2,0;k6=2,0;k7=2,0;";
        edge.reads(greatest, x -> x.count(1), 2592);
        edge.reads(greatest, x -> x.miss(0), 6480);
        edge.readsFraction(greatest, (x, part) -> x.spread(7, 1, part), 0, 1);
    }

    private void corners() {
        edge.of(0, "CORNER 0 is 0, 0; the next one is SPREAD STEP of the SIDE between further."
            + " (So behind the last SIDE it is 0, 0 again.)");
        edge.readsFraction(THIRD, (x, part) -> x.corner(0, 0, part), 0, 1);
        edge.readsFraction(THIRD, (x, part) -> x.corner(0, 1, part), 0, 1);
        edge.readsFraction(THIRD, (x, part) -> x.corner(2, 0, part), 10, 1);
        edge.readsFraction(THIRD, (x, part) -> x.corner(2, 1, part), 10, 3);
        edge.readsFraction(THIRD, (x, part) -> x.spread(2, 0, part), -10, 1);
        edge.readsFraction(THIRD, (x, part) -> x.spread(2, 1, part), -10, 3);
        edge.refuses(THIRD, x -> x.corner(3, 0, 0), R + 1);
        edge.readsFraction("s9,9*9;", (x, part) -> x.corner(0, 0, part), 0, 1);
        edge.refuses("s9,9*9;", x -> x.corner(1, 0, 0), R + 1);
    }

    private void areas() {
        edge.of(0, "in squares of tenths: above 0, if it goes round with the sun the other way about.");
        edge.readsFraction(SQUARE, (x, part) -> x.area(part), 22500, 1);
        edge.readsFraction(SQUARE + "r;", (x, part) -> x.area(part), -22500, 1);
        edge.readsFraction("s3,3*1;s0,-3*1;s-3,3*1;s0,-3*1;", (x, part) -> x.area(part), 0, 1);
        edge.readsFraction("s1,0*1;s-1,0*1;", (x, part) -> x.area(part), 0, 1);
        edge.readsFraction(THIRD, (x, part) -> x.area(part), 100, 3);
        edge.readsFraction(THIRD + "r;", (x, part) -> x.area(part), -100, 3);
        // The greatest there is: 8 TAPED ones of 9 * 9 * 19 both ways, or of one way and 0.
        String greatest = "s9,0*9;s9,0*9;s0,9*9;s0,9*9;s-9,0*9;s-9,0*9;s0,-9*9;s0,-9*9;"
            + "k0=1,9;k1=1,9;k2=1,9;k3=1,9;k4=1,9;k5=1,9;k6=1,9;k7=1,9;";
        edge.readsFraction(greatest, (x, part) -> x.area(part), 3078L * 3078L, 1);
        edge.readsFraction(greatest, (x, part) -> x.hull(part), 3078L * 3078L, 1);
    }

    private void turns() {
        edge.of(0, "1 left, 2 right, 3 back, 0 straight on; if one of both is 0, 4.");
        edge.reads("s1,0*1;s2,0*1;s0,3*1;s-3,0*1;s0,-3*1;", x -> x.turn(1), 0);
        edge.reads("s1,0*1;s2,0*1;s0,3*1;s-3,0*1;s0,-3*1;", x -> x.turn(2), 1);
        edge.reads("s1,0*1;s2,0*1;s0,3*1;s-3,0*1;s0,-3*1;r;", x -> x.turn(2), 2);
        // As little to the left and to the right as can be: 9,8 behind 8,7, and 8,7 behind 9,8.
        edge.reads("s8,7*1;s9,8*1;s-8,-7*1;s-9,-8*1;", x -> x.turn(1), 1);
        edge.reads("s9,8*1;s8,7*1;s-9,-8*1;s-8,-7*1;", x -> x.turn(1), 2);
        edge.reads("s9,8*1;s9,8*2;s-9,-8*3;", x -> x.turn(1), 0);
        edge.reads("s9,8*1;s9,8*2;s-9,-8*3;", x -> x.turn(2), 3);
        // Back and straight on by east alone and by north alone, both ways.
        for (String line : new String[] {"s5,0*1;s-2,0*1;s-3,0*1;", "s0,5*1;s0,-2*1;s0,-3*1;"}) {
            edge.reads(line, x -> x.turn(1), 3);
            edge.reads(line, x -> x.turn(2), 0);
            edge.reads(line + "r;", x -> x.turn(1), 0);
            edge.reads(line + "r;", x -> x.turn(2), 3);
        }
        // As short as can be: SPREAD STEPS of a third of a tenth, twice, and back.
        edge.reads("s1,0*1;s1,0*1;s1,0*1;k0=1,1;k1=1,1;", x -> x.turn(1), 0);
        edge.reads("s1,0*1;s1,0*1;s1,0*1;k0=1,1;k1=1,1;", x -> x.turn(2), 3);
        // Nearly back: 9,8 and -8,-7.
        edge.reads("s9,8*1;s-8,-7*1;s-9,-8*1;s8,7*1;", x -> x.turn(1), 1);
        edge.reads("s8,7*1;s-9,-8*1;s-8,-7*1;s9,8*1;", x -> x.turn(1), 2);
        // The first two are spread to nothing; the others are FIXED: 0,10 and 0,-10.
        String still = "s1,0*1;s1,0*1;s0,1*1;s0,-1*1;k2=4,0;k3=4,0;";
        edge.reads(still, x -> x.turn(0), 4);
        edge.reads(still, x -> x.turn(1), 4);
        edge.reads(still, x -> x.turn(2), 4);
        edge.reads(still, x -> x.turn(3), 3);
        edge.reads("s9,9*9;", x -> x.turn(0), 4);
        edge.of(0, "TURN at a CORNER: by the SPREAD STEP to it (of CORNER 0 that of the last SIDE) and that from it");
        edge.reads(SQUARE, x -> x.turn(0), 1);
        edge.reads(SQUARE + "r;", x -> x.turn(0), 2);
        edge.reads("s1,0*2;s1,0*3;s-1,0*5;", x -> x.turn(0), 3);
        edge.reads("s2,0*1;s0,3*1;s-3,0*1;s0,-3*1;s1,0*1;", x -> x.turn(0), 0);
    }

    private void neighbours() {
        edge.of(0, "two SIDES that are no neighbours (the last and the first are) CROSS");
        edge.reads(SQUARE, x -> x.cross(0, 2), 0);
        edge.reads(SQUARE, x -> x.cross(3, 1), 0);
        edge.refuses(SQUARE, x -> x.cross(3, 0), -3);
        edge.refuses(SQUARE, x -> x.cross(0, 3), -3);
        edge.refuses(SQUARE, x -> x.cross(2, 3), -3);
        edge.reads(TOUCHING, x -> x.cross(0, 3), 1);
        edge.refuses(TOUCHING, x -> x.cross(0, 4), -3);
        edge.refuses(TOUCHING, x -> x.cross(4, 3), -3);
        edge.refuses(OPEN, x -> x.cross(0, 1), -3);
        edge.refuses(THIRD, x -> x.cross(2, 0), -3);
        // One point each, so that all that are no neighbours CROSS: n (n - 3) / 2 pairs.
        long[] pairs = {0, 0, 0, 0, 2, 5, 9, 14, 20};
        for (int n = 1; n <= 8; n++) {
            edge.reads("s1,0*1;".repeat(n), x -> x.crosses(), pairs[n]);
        }
    }

    private void endsCounted() {
        edge.of(0, "if they, from CORNER to CORNER (ends counted), have a point in common.");
        edge.reads(TOUCHING, x -> x.cross(0, 2), 1);
        edge.reads(TOUCHING, x -> x.cross(2, 0), 1);
        edge.reads(TOUCHING, x -> x.cross(3, 0), 1);
        // All but the last are FIXED, so that the last one closes. In steps of 10 tenths, SIDE 0 is
        // 0,0 to 81,0; SIDE 2 comes down to one short of it, just to it, to one behind it.
        crossFirst("s9,0*9;s0,8*8;s-5,-9*7;s-4,9*7;s0,-1*1;", 0, 0);
        crossFirst("s9,0*9;s0,9*7;s-5,-9*7;s-4,9*7;s0,-1*1;", 1, 2);
        crossFirst("s9,0*9;s0,9*7;s-5,-8*8;s-4,9*7;s0,-1*1;", 1, 2);
        // SIDE 2 comes to the end of SIDE 0 at 0,0, then on its line one beyond that end; the last
        // SIDE, which comes back to 0,0, then has a point in common with SIDE 2, too.
        crossFirst("s8,0*8;s0,7*8;s-8,-7*8;s-4,9*7;s0,-1*1;", 1, 3);
        crossFirst("s7,0*9;s0,7*8;s-8,-7*8;s-4,9*7;s0,-1*1;", 0, 1);
        // SIDE 4 comes back on the line of SIDE 0 to one short of its end, to its end, and one further.
        crossAlong("s7,0*9;s0,1*1;s8,0*8;s0,-1*1;s-7,0*9;s0,-1*1;s0,-1*1;", 0);
        crossAlong("s7,0*9;s0,1*1;s7,0*9;s0,-1*1;s-7,0*9;s0,-1*1;s0,-1*1;", 1);
        crossAlong("s7,0*9;s0,1*1;s7,0*9;s0,-1*1;s-8,0*8;s0,-1*1;s0,-1*1;", 1);
        edge.reads("s4,4*1;s-4,0*1;s4,-4*1;s-4,0*1;", x -> x.cross(0, 2), 1);
    }

    private static String allFixedUpTo(int last) {
        StringBuilder text = new StringBuilder();
        for (int i = 0; i < last; i++) {
            text.append("k").append(i).append("=4,0;");
        }
        return text.toString();
    }

    /** SIDE 0 by SIDE 2, and by SIDE 3, which begins where that ends. */
    private void crossFirst(String text, int want, int pairs) {
        String told = text + allFixedUpTo(4);
        edge.reads(told, x -> x.cross(0, 2), want);
        edge.reads(told, x -> x.cross(2, 0), want);
        edge.reads(told, x -> x.cross(0, 3), want);
        edge.reads(told, x -> x.crosses(), pairs);
    }

    private void crossAlong(String text, int want) {
        edge.reads(text + allFixedUpTo(6), x -> x.cross(0, 4), want);
        edge.reads(text + allFixedUpTo(6), x -> x.cross(4, 0), want);
        edge.reads(text + allFixedUpTo(6), x -> x.cross(0, 5), want);
    }

    private void lost() {
        edge.of(0, "LOST: were a SIDE lost: the STEP by which the others' STEPS come back (not SPREAD).");
        edge.reads("s9,-9*9;", x -> x.lost(0, 0), 0);
        edge.reads("s9,-9*9;", x -> x.lost(0, 1), 0);
        edge.reads(FIXED, x -> x.lost(2, 0), -10);
        edge.reads(FIXED, x -> x.lost(2, 1), -10);
        edge.reads("s9,-9*9;".repeat(8), x -> x.lost(0, 0), -5670);
        edge.reads("s9,-9*9;".repeat(8), x -> x.lost(7, 1), 5670);
    }

    private void lengths() {
        edge.of(0, "by which TIMES (fractions; may be below 0) STEPS of all come back: x of the first, y of the second;"
            + " none, if both go the same way, or just the other way.");
        // 7 times 90,80 less 8 times 80,70 is -10,0.
        String nearly = "s9,8*1;s8,7*1;s1,0*1;";
        edge.readsFraction(nearly, (x, part) -> x.lengths(0, 1, 0, part), 7, 1);
        edge.readsFraction(nearly, (x, part) -> x.lengths(0, 1, 1, part), -8, 1);
        edge.readsFraction(nearly, (x, part) -> x.lengths(1, 0, 0, part), -8, 1);
        edge.readsFraction("s9,8*9;s8,7*9;", (x, part) -> x.lengths(0, 1, 0, part), 0, 1);
        edge.refuses("s9,8*1;s9,8*1;s1,0*1;", x -> x.lengths(0, 1, 0, 0), R + 3);
        edge.refuses("s3,-6*1;s1,-2*9;s1,0*1;", x -> x.lengths(0, 1, 0, 0), R + 3);
        edge.refuses("s3,-6*1;s-1,2*9;s1,0*1;", x -> x.lengths(0, 1, 1, 1), R + 3);
        edge.refuses("s0,1*1;s0,-9*1;s1,0*1;k0=5,9;k1=1,9;", x -> x.lengths(1, 0, 0, 0), R + 3);
        edge.readsFraction("s0,1*1;s-1,0*1;s9,0*9;k1=5,9;", (x, part) -> x.lengths(0, 1, 1, part), 810, 1);
        edge.readsFraction("s0,1*1;s-1,0*1;s1,0*1;k1=1,9;", (x, part) -> x.lengths(0, 1, 1, part), 10, 19);
    }

    private void worst() {
        edge.of(0, "is least, if less than as it is, of several the first; -9.");
        // 20 less 10: as much without the first. 19 less 9: 10, and 9 without the first.
        edge.reads("s2,0*1;s-1,0*1;", x -> x.worst(0), -9);
        edge.reads("s2,0*1;s-1,0*1;", x -> x.worst(1), -9);
        edge.reads("s1,0*1;s-1,0*1;k0=1,9;k1=5,1;", x -> x.worst(0), 0);
        edge.reads("s1,0*1;s-1,0*1;k0=1,9;k1=5,1;", x -> x.worst(1), 9);
        edge.reads("s1,0*1;s-1,0*1;k0=1,9;", x -> x.worst(0), -9);
        edge.reads(SQUARE + "s1,1*1;s1,1*1;", x -> x.worst(0), 4);
        edge.reads(SQUARE + "s1,1*1;s1,1*1;", x -> x.worst(1), 20);
        edge.reads("s1,1*1;s2,2*1;" + SQUARE, x -> x.worst(0), 1);
        edge.reads("s9,9*9;", x -> x.worst(0), 0);
        edge.reads("s9,9*9;", x -> x.worst(1), 0);
        edge.reads(SQUARE, x -> x.worst(0), -9);
        edge.reads("", x -> x.worst(0), -9);
        edge.reads("", x -> x.worst(1), -9);
        // East and north without their signs: 10,-10 is 20, as much as 20,0.
        edge.reads("s1,-1*1;s1,1*1;", x -> x.worst(0), -9);
        edge.reads("s1,-1*1;s1,1*1;", x -> x.worst(1), -9);
    }

    private void order() {
        edge.of(0, "ORDER: SIDES by WEIGHT, the greatest first, of alike ones by numbers: the i-th.");
        String alike = "s1,0*2;s1,1*1;s1,0*1;k2=2,0;";
        for (int i = 0; i < 3; i++) {
            int same = i;
            edge.reads(alike, x -> x.order(same), same);
        }
        // One less, one more than the other.
        edge.reads("s1,0*2;s1,0*3;s1,0*2;", x -> x.order(0), 1);
        edge.reads("s1,0*2;s1,0*3;s1,0*2;", x -> x.order(1), 0);
        edge.reads("s1,0*2;s1,0*3;s1,0*2;", x -> x.order(2), 2);
        edge.reads(FIXED, x -> x.order(2), 2);
        edge.reads("s1,0*1;s1,0*1;k0=4,0;", x -> x.order(0), 1);
    }

    private void outline(String text, int bits, int corners) {
        edge.reads(text, x -> x.outline(0), bits);
        edge.reads(text, x -> x.outline(1), corners);
    }

    private void outlines() {
        edge.of(0, "(of several at one point the first; none between two others on a line;"
            + " if all are at one point, CORNER 0; if all are on a line, its two ends).");
        // 0,0 10,0 20,0 20,20 20,0 0,20: 4 is where 2 was, 1 is on a line.
        outline("s1,0*1;s1,0*1;s0,2*1;s0,-2*1;s-2,2*1;s0,-2*1;", 45, 4);
        // The last corner is where corner 0 is.
        outline("s2,0*1;s0,2*1;s-2,0*1;s0,-2*1;s1,1*1;s-1,-1*1;", 15, 4);
        // 0,0 10,-1 20,0: by a tenth not between the others; then by a tenth within, with a fourth.
        outline("s1,0*1;s1,0*1;s0,1*1;s-2,0*1;s0,-1*1;", 29, 4);
        outline("s9,-1*1;s9,1*1;s0,9*1;s-9,0*2;s0,-9*1;", 31, 5);
        outline("s9,1*1;s9,-1*1;s0,9*1;s-9,0*2;s0,-9*1;", 29, 4);
        outline("s1,0*1;", 1, 1);
        outline("s1,0*1;".repeat(8), 1, 1);
        outline("s1,0*2;s1,0*3;s-1,0*5;", 5, 2);
        outline("s9,8*1;s-9,-8*3;s9,8*2;", 6, 2);
        outline("s1,0*1;s-1,0*1;", 3, 2);
        outline("s1,0*1;s-1,0*1;".repeat(4), 3, 2);
        outline(OPEN, 3, 2);
    }

    private void hulls() {
        edge.of(0, "HULL AREA: of that, without its sign.");
        edge.readsFraction(SQUARE, (x, part) -> x.hull(part), 22500, 1);
        edge.readsFraction(SQUARE + "r;", (x, part) -> x.hull(part), 22500, 1);
        edge.readsFraction("s3,3*1;s0,-3*1;s-3,3*1;s0,-3*1;", (x, part) -> x.hull(part), 900, 1);
        edge.readsFraction("s1,0*2;s1,0*3;s-1,0*5;", (x, part) -> x.hull(part), 0, 1);
        edge.readsFraction(POINTS, (x, part) -> x.hull(part), 0, 1);
        edge.readsFraction(THIRD + "r;", (x, part) -> x.hull(part), 100, 3);
    }

    private void parcels() {
        edge.of(0, "(round), j 1 .. k: their AREAS (with signs) together (k 0 .. SIDES less 2).");
        // From corner 0 of TOUCHING: 400, then -200, then 200; from 4 (0,20): 400, 400, -400.
        long[] fromFirst = {0, 400, 200, 400};
        long[] fromLast = {0, 400, 800, 400};
        for (int k = 0; k <= 3; k++) {
            int triangles = k;
            edge.readsFraction(TOUCHING, (x, part) -> x.parcel(0, triangles, part), fromFirst[k], 1);
            edge.readsFraction(TOUCHING, (x, part) -> x.parcel(4, triangles, part), fromLast[k], 1);
        }
        edge.refuses(TOUCHING, x -> x.parcel(0, 4, 0), R + 6);
        edge.refuses(TOUCHING, x -> x.parcel(0, -1, 0), R + 4);
        edge.readsFraction(OPEN, (x, part) -> x.parcel(0, 0, part), 0, 1);
        edge.readsFraction(SQUARE + "r;", (x, part) -> x.parcel(3, 2, part), -22500, 1);
    }

    private void cut(String text, int c, int v, long triangle, long above, long below) {
        edge.reads(text, x -> x.cut(c, v, 0), triangle);
        edge.reads(text, x -> x.cut(c, v, 1), above);
        edge.reads(text, x -> x.cut(c, v, 2), below);
    }

    private void cuts() {
        edge.of(0, "the first TRIANGLE (from 1 on) by which PARCEL comes to be v or passes it"
            + " (v above 0: is v or more for the first time; v below 0: is v or less)");
        // PARCELS of SQUARE are 112.5 and 225.
        cut(SQUARE, 0, 112, 1, 224, 225);
        cut(SQUARE, 0, 113, 2, 1, 225);
        cut(SQUARE + "r;", 0, -112, 1, 224, 225);
        cut(SQUARE + "r;", 0, -113, 2, 1, 225);
        // Those of TOUCHING are 4, 2, 4 from CORNER 0, 2, 2, 4 from CORNER 3, 4, 8, 4 from CORNER 4.
        cut(TOUCHING, 0, 3, 1, 3, 4);
        cut(TOUCHING, 0, 4, 1, 1, 1);
        cut(TOUCHING, 3, 2, 1, 1, 1);
        cut(TOUCHING, 3, 3, 3, 1, 2);
        cut(TOUCHING, 4, 5, 2, 1, 4);
        edge.of(0, "how far along its third side (from the j-th CORNER; a fraction 0 .. 1): PARCEL is just v there");
        cut(SQUARE, 0, 1, 1, 2, 225);
        cut(SQUARE, 0, 225, 2, 1, 1);
        cut(SQUARE + "r;", 0, -225, 2, 1, 1);
        cut(SQUARE, 0, 0, 1, 0, 1);
    }

    private void cutsNone() {
        edge.of(0, "none, if it doesn't, or there are no TRIANGLES (v 0, too, then; else v 0: TRIANGLE 1, 0).");
        cut(SQUARE, 0, 226, -9, -9, -9);
        cut(SQUARE + "r;", 0, -226, -9, -9, -9);
        cut(TOUCHING, 0, 5, -9, -9, -9);
        cut(TOUCHING, 4, 8, 2, 1, 1);
        cut(TOUCHING, 4, 9, -9, -9, -9);
        cut(SQUARE, 0, -1, -9, -9, -9);
        cut(SQUARE + "r;", 0, 1, -9, -9, -9);
        cut("s1,0*1;", 0, 0, -9, -9, -9);
        cut(OPEN, 0, 0, -9, -9, -9);
        cut(OPEN, 1, 1, -9, -9, -9);
        cut(OPEN, 1, -1, -9, -9, -9);
        cut(THIRD, 0, 0, 1, 0, 1);
        cut("s1,0*1;".repeat(3), 2, 0, 1, 0, 1);
        cut("s1,0*1;".repeat(3), 2, 1, -9, -9, -9);
        edge.of(0, "CUT of a told AREA v (-9999 .. 9999, in squares of 10 tenths)");
        // 1458 by 1458 tenths: the first TRIANGLE is 2 times the 12th power of 3, 9999 is 999900 of it.
        String great = "s9,0*9;s0,9*9;s-9,0*9;s0,-9*9;k0=1,8;k1=1,8;k2=1,8;k3=1,8;";
        cut(great, 0, 9999, 1, 55550, 59049);
        edge.refuses(great, x -> x.cut(0, 10000, 0), R + 6);
        cut(great + "r;", 0, -9999, 1, 55550, 59049);
        edge.refuses(great + "r;", x -> x.cut(0, -10000, 0), R + 4);
    }

    private void likely() {
        edge.of(0, "LIKELY: each SIDE, by itself, is lost with odds 1 in t (2 .. 20): how likely MISS of the others,"
            + " as told at WORST (0, if there are none), is v (0 .. 9999) or less: a fraction in least terms");
        edge.readsFraction("s1,0*1;", (x, part) -> x.likely(2, 0, part), 1, 2);
        edge.readsFraction("s1,0*1;", (x, part) -> x.likely(20, 9, part), 1, 20);
        edge.readsFraction("s1,0*1;", (x, part) -> x.likely(20, 10, part), 1, 1);
        edge.readsFraction("s1,0*1;", (x, part) -> x.likely(20, 9999, part), 1, 1);
        edge.readsFraction("", (x, part) -> x.likely(2, 0, part), 1, 1);
        edge.readsFraction("s1,-1*1;", (x, part) -> x.likely(3, 19, part), 1, 3);
        edge.readsFraction("s1,-1*1;", (x, part) -> x.likely(3, 20, part), 1, 1);
        edge.refuses("s1,0*1;", x -> x.likely(1, 0, 0), R + 4);
        edge.refuses("s1,0*1;", x -> x.likely(21, 0, 0), R + 6);
        edge.refuses("s1,0*1;", x -> x.likely(2, -1, 0), R + 4);
        edge.refuses("s1,0*1;", x -> x.likely(2, 10000, 0), R + 6);
        edge.readsFraction("s9,9*9;".repeat(8), (x, part) -> x.likely(20, 0, part), 1, 25600000000L);
        // Least terms: 4 of 16 are without a MISS.
        edge.readsFraction("s1,0*1;s-1,0*1;s0,2*1;s0,-2*1;", (x, part) -> x.likely(2, 0, part), 1, 4);
        // As least at 20 together 1539 * 2 * 4 = 12312, above 9999; 3 of 4 left are 9234.
        String great = "s9,9*9;".repeat(4) + "k0=1,9;k1=1,9;k2=1,9;k3=1,9;";
        edge.readsFraction(great, (x, part) -> x.likely(2, 9999, part), 15, 16);
        edge.readsFraction(great, (x, part) -> x.likely(2, 9234, part), 15, 16);
        edge.readsFraction(great, (x, part) -> x.likely(2, 9233, part), 11, 16);
    }

    private void fractions() {
        edge.of(0, "Fractions are told in least terms; 0 as 0 by 1.");
        edge.readsFraction(OPEN, (x, part) -> x.spread(0, 0, part), 15, 2);
        edge.readsFraction(OPEN, (x, part) -> x.spread(1, 0, part), -15, 2);
        edge.readsFraction("s9,9*9;", (x, part) -> x.spread(0, 1, part), 0, 1);
        edge.readsFraction(OPEN, (x, part) -> x.area(part), 0, 1);
        edge.readsFraction(OPEN, (x, part) -> x.hull(part), 0, 1);
        edge.readsFraction(OPEN, (x, part) -> x.parcel(1, 0, part), 0, 1);
        edge.readsFraction("s2,0*1;s0,3*1;s-5,-7*1;s0,-1*3;", (x, part) -> x.lengths(0, 1, 0, part), 5, 2);
        edge.readsFraction("s2,0*1;s0,3*1;s5,7*1;s0,-1*3;", (x, part) -> x.lengths(0, 1, 0, part), -5, 2);
        edge.readsFraction("s-2,0*1;s0,3*1;s5,7*1;s0,-1*3;", (x, part) -> x.lengths(0, 1, 0, part), 5, 2);
    }
}
