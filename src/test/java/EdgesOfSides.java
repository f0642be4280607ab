/** Edges of promises 1 to 10. */
final class EdgesOfSides {
    private static final long R = Edge.R;
    private static final int MIN = Edge.MIN;
    private static final int MAX = Edge.MAX;
    private static final String ONE = EdgesOfTerms.ONE;
    private static final String SEVEN = EdgesOfTerms.SEVEN;
    private static final String EIGHT = EdgesOfTerms.EIGHT;

    private final Edge edge;

    EdgesOfSides(Edge edge) {
        this.edge = edge;
    }

    void check() {
        newObject();
        letter();
        tells();
        sideBelow();
        sideAbove();
        insertNobody();
        insertElse();
        kind();
        gone();
        turned();
        of();
        miss();
    }

    private void newObject() {
        edge.of(1, "No SIDES.");
        TraverseClosed x = new TraverseClosed();
        int[] whats = {0, 1, 2, 3, 4, 11, 12, 13, 14, 15, 16};
        for (int what : whats) {
            edge.is(x.count(what), 0);
        }
        edge.is(x.of(0, 0), R + 1);
        edge.is(x.order(0), -1);
        edge.is(x.miss(0), 0);
        edge.is(x.miss(1), 0);
        edge.is(x.area(0), R + 3);
        edge.is(x.clear(), 0);
        edge.is(x.undo(), -3);
        edge.is(x.on(), -3);
        edge.is(x.look(0, 0), R + 11);
        edge.is(x.tells(), -1000);
        edge.is(x.side(1, 1, 1), 0);
        // Objects share nothing.
        edge.is(new TraverseClosed().count(0), 0);
    }

    /** An object that has so many letters: "r;r; ..". */
    private static TraverseClosed lettered(int n) {
        TraverseClosed x = Edge.silent(ONE);
        for (int i = 0; i < n; i++) {
            x.letter(i % 2 == 0 ? 'r' : ';');
        }
        return x;
    }

    private void letter() {
        edge.of(2, "A letter (0 .. 255) comes: how many there are.");
        edge.is(lettered(0).letter(0), 1);
        edge.is(lettered(0).letter(255), 1);
        edge.is(lettered(1).letter(';'), 2);
        edge.is(lettered(119).letter(';'), 120);
        edge.of(2, "-4;");
        edge.refuses(() -> lettered(0), x -> x.letter(-1), -4);
        edge.refuses(() -> lettered(2), x -> x.letter(MIN), -4);
        edge.refuses(() -> lettered(120), x -> x.letter(-1), -4);
        edge.of(2, "-6 (255; 120, too).");
        edge.refuses(() -> lettered(2), x -> x.letter(256), -6);
        edge.refuses(() -> lettered(2), x -> x.letter(MAX), -6);
        edge.refuses(() -> lettered(119), x -> x.letter(256), -6);
        edge.refuses(() -> lettered(120), x -> x.letter(255), -6);
        edge.refuses(() -> lettered(120), x -> x.letter('r'), -6);
        edge.refuses(() -> lettered(120), x -> x.letter(256), -6);
    }

    private void tells() {
        edge.of(3, "The letters become STATEMENTS, and are no more (with a FAULT neither): how many;"
            + " the FAULT (no REFUSAL is counted).");
        TraverseClosed x = lettered(2);
        edge.is(x.tells(), 1);
        edge.is(x.count(2), 0);
        edge.is(x.tells(), -1000);
        edge.is(x.letter('r'), 1);
        edge.is(x.tells(), -1001);
        edge.is(x.count(2), 0);
        edge.is(x.letter('r'), 1);
        edge.is(x.letter(';'), 2);
        edge.is(x.tells(), 1);
        edge.is(Due.tell(x, "d9;"), -2000);
        edge.is(x.count(2), 0);
        edge.is(x.tells(), -1000);
        for (int what = 11; what <= 16; what++) {
            edge.is(x.count(what), 0);
        }
        edge.is(lettered(120).tells(), 60);
        edge.is(lettered(119).tells(), -1119);
        TraverseClosed full = lettered(120);
        edge.is(full.letter('r'), -6);
        edge.is(full.tells(), 60);
        edge.is(full.letter('r'), 1);
    }

    private void sideBelow() {
        edge.of(4, "A SIDE more (KIND 0, FIGURE 0), behind the last: its number.");
        TraverseClosed x = Edge.made(ONE + "k0=5,9;");
        edge.is(x.side(-2, 3, 4), 1);
        long[] want = {0, 0, -2, 3, 4};
        for (int what = 0; what <= 4; what++) {
            edge.is(x.of(1, what), want[what]);
        }
        edge.is(x.of(0, 0), 5);
        edge.does("", y -> y.side(1, 1, 1), 0);
        edge.does(SEVEN, y -> y.side(1, 1, 1), 7);
        edge.of(4, "-4 (EAST, NORTH below -9; TIMES below 1);");
        edge.does(ONE, y -> y.side(-9, -9, 1), 1);
        edge.refuses(ONE, y -> y.side(-10, 1, 1), -4);
        edge.refuses(ONE, y -> y.side(1, -10, 1), -4);
        edge.refuses(ONE, y -> y.side(1, 1, 0), -4);
        edge.refuses(ONE, y -> y.side(1, 1, -1), -4);
        edge.refuses(ONE, y -> y.side(MIN, 1, 1), -4);
        edge.refuses(ONE, y -> y.side(1, MIN, 1), -4);
        edge.refuses(ONE, y -> y.side(1, 1, MIN), -4);
        // Ahead of -6 and -3.
        edge.refuses(ONE, y -> y.side(-10, 10, 10), -4);
        edge.refuses(ONE, y -> y.side(10, -10, 10), -4);
        edge.refuses(ONE, y -> y.side(10, 10, 0), -4);
        edge.refuses(ONE, y -> y.side(0, 0, 0), -4);
        edge.refuses(EIGHT, y -> y.side(1, 1, 0), -4);
        edge.refuses(EIGHT, y -> y.side(-10, 1, 1), -4);
    }

    private void sideAbove() {
        edge.of(4, "-6 (9; 8 are there, too);");
        edge.does(ONE, y -> y.side(9, 9, 9), 1);
        edge.refuses(ONE, y -> y.side(10, 1, 1), -6);
        edge.refuses(ONE, y -> y.side(1, 10, 1), -6);
        edge.refuses(ONE, y -> y.side(1, 1, 10), -6);
        edge.refuses(ONE, y -> y.side(MAX, 1, 1), -6);
        edge.refuses(ONE, y -> y.side(1, MAX, 1), -6);
        edge.refuses(ONE, y -> y.side(1, 1, MAX), -6);
        edge.refuses(ONE, y -> y.side(0, 0, 10), -6);
        edge.does(SEVEN, y -> y.side(1, 1, 1), 7);
        edge.refuses(EIGHT, y -> y.side(1, 1, 1), -6);
        edge.refuses(EIGHT, y -> y.side(0, 0, 1), -6);
        edge.of(4, "-3 both are 0.");
        edge.does(ONE, y -> y.side(0, -1, 1), 1);
        edge.does(ONE, y -> y.side(-1, 0, 1), 1);
        edge.refuses(ONE, y -> y.side(0, 0, 1), -3);
        edge.refuses(SEVEN, y -> y.side(0, 0, 9), -3);
    }

    private void insertNobody() {
        edge.of(5, "A SIDE more, ahead of one: its number. -1;");
        TraverseClosed x = Edge.made("s1,1*1;s2,2*2;k0=1,5;k1=2,6;");
        edge.is(x.insert(1, -3, 4, 5), 1);
        long[] want = {0, 0, -3, 4, 5};
        for (int what = 0; what <= 4; what++) {
            edge.is(x.of(1, what), want[what]);
        }
        edge.is(x.of(0, 1), 5);
        edge.is(x.of(2, 1), 6);
        edge.is(x.insert(0, 1, 1, 9), 0);
        edge.is(x.of(0, 4), 9);
        edge.is(x.of(1, 1), 5);
        edge.refuses(ONE, y -> y.insert(1, 1, 1, 1), -1);
        edge.refuses(ONE, y -> y.insert(-1, 1, 1, 1), -1);
        edge.refuses(ONE, y -> y.insert(MAX, 1, 1, 1), -1);
        edge.refuses(ONE, y -> y.insert(MIN, 1, 1, 1), -1);
        edge.refuses("", y -> y.insert(0, 1, 1, 1), -1);
        edge.refuses(EIGHT, y -> y.insert(8, -10, 10, 0), -1);
    }

    private void insertElse() {
        edge.of(5, "else as side().");
        edge.does(SEVEN, y -> y.insert(0, -9, 9, 9), 0);
        edge.does(SEVEN, y -> y.insert(6, 9, -9, 1), 6);
        edge.refuses(ONE, y -> y.insert(0, -10, 1, 1), -4);
        edge.refuses(ONE, y -> y.insert(0, 1, -10, 1), -4);
        edge.refuses(ONE, y -> y.insert(0, 1, 1, 0), -4);
        edge.refuses(ONE, y -> y.insert(0, 10, 1, 1), -6);
        edge.refuses(ONE, y -> y.insert(0, 1, 10, 1), -6);
        edge.refuses(ONE, y -> y.insert(0, 1, 1, 10), -6);
        edge.refuses(ONE, y -> y.insert(0, 0, 0, 1), -3);
        edge.refuses(ONE, y -> y.insert(0, 10, -10, 10), -4);
        edge.refuses(ONE, y -> y.insert(0, 0, 0, 10), -6);
        edge.refuses(EIGHT, y -> y.insert(0, 1, 1, 1), -6);
        edge.refuses(EIGHT, y -> y.insert(0, 0, 0, 1), -6);
        edge.refuses(EIGHT, y -> y.insert(0, 1, 1, 0), -4);
    }

    private void kind() {
        edge.of(6, "KIND, FIGURE become others: 10 times the KIND and the FIGURE it had.");
        TraverseClosed x = Edge.made("s1,1*1;s2,2*2;");
        edge.is(x.kind(1, 5, 9), 0);
        edge.is(x.kind(1, 5, 9), 59);
        edge.is(x.kind(1, 0, 9), 59);
        edge.is(x.kind(1, 1, 0), 9);
        edge.is(x.kind(1, 0, 0), 10);
        edge.is(x.of(0, 0) + x.of(0, 1), 0);
        edge.of(6, "-1; -2; -4; -6 9.");
        edge.does(ONE, y -> y.kind(0, 5, 9), 0);
        edge.refuses(ONE, y -> y.kind(1, 5, 9), -1);
        edge.refuses(ONE, y -> y.kind(-1, 5, 9), -1);
        edge.refuses("", y -> y.kind(0, 5, 9), -1);
        edge.refuses(ONE, y -> y.kind(MAX, 6, 10), -1);
        edge.refuses(ONE, y -> y.kind(MIN, -1, -1), -1);
        edge.refuses(ONE, y -> y.kind(0, 6, 9), -2);
        edge.refuses(ONE, y -> y.kind(0, -1, 0), -2);
        edge.refuses(ONE, y -> y.kind(0, MAX, -1), -2);
        edge.refuses(ONE, y -> y.kind(0, MIN, 10), -2);
        edge.does(ONE, y -> y.kind(0, 0, 0), 0);
        edge.refuses(ONE, y -> y.kind(0, 0, -1), -4);
        edge.refuses(ONE, y -> y.kind(0, 0, MIN), -4);
        edge.refuses(ONE, y -> y.kind(0, 5, 10), -6);
        edge.refuses(ONE, y -> y.kind(0, 5, MAX), -6);
    }

    private void gone() {
        edge.of(7, "A SIDE is gone: how many there are. -1.");
        edge.does(EIGHT, x -> x.gone(7), 7);
        edge.does(EIGHT, x -> x.gone(0), 7);
        edge.does(ONE, x -> x.gone(0), 0);
        edge.refuses(EIGHT, x -> x.gone(8), -1);
        edge.refuses(EIGHT, x -> x.gone(-1), -1);
        edge.refuses(ONE, x -> x.gone(1), -1);
        edge.refuses(ONE, x -> x.gone(MAX), -1);
        edge.refuses(ONE, x -> x.gone(MIN), -1);
        edge.refuses("", x -> x.gone(0), -1);
        TraverseClosed x = Edge.made("s1,5*1;s2,6*2;s3,7*3;k2=4,8;");
        edge.is(x.gone(1), 2);
        long[] want = {4, 8, 3, 7, 3};
        for (int what = 0; what <= 4; what++) {
            edge.is(x.of(1, what), want[what]);
        }
    }

    private void turned() {
        edge.of(8, "SIDES are turned, as by \"r\": how many.");
        edge.does("", x -> x.turned(), 0);
        edge.does(ONE, x -> x.turned(), 1);
        edge.does(EIGHT, x -> x.turned(), 8);
        for (int n = 1; n <= 8; n++) {
            TraverseClosed x = new TraverseClosed();
            for (int i = 0; i < n; i++) {
                x.side(i + 1, -i, i + 1);
                x.kind(i, i % 6, i + 1);
            }
            edge.is(x.turned(), n);
            for (int i = 0; i < n; i++) {
                int was = n - 1 - i;
                edge.is(x.of(i, 0), was % 6);
                edge.is(x.of(i, 1), was + 1);
                edge.is(x.of(i, 2), -was - 1);
                edge.is(x.of(i, 3), was);
                edge.is(x.of(i, 4), was + 1);
            }
        }
    }

    private void of() {
        edge.of(9, "Of a SIDE: 0 KIND, 1 FIGURE, 2 EAST, 3 NORTH, 4 TIMES, 5 WEIGHT, 6 STEP east, 7 STEP north.");
        long[] want = {5, 9, -9, 8, 7, 238, -63, 56};
        for (int i = 0; i < want.length; i++) {
            int what = i;
            edge.reads("s-9,8*7;k0=5,9;", x -> x.of(0, what), want[what]);
        }
        edge.of(9, "Refused as told: -1; -2.");
        edge.refuses(ONE, x -> x.of(1, 0), R + 1);
        edge.refuses(ONE, x -> x.of(-1, 8), R + 1);
        edge.refuses(ONE, x -> x.of(MAX, 0), R + 1);
        edge.refuses(ONE, x -> x.of(MIN, -1), R + 1);
        edge.refuses("", x -> x.of(0, 0), R + 1);
        edge.refuses(ONE, x -> x.of(0, 8), R + 2);
        edge.refuses(ONE, x -> x.of(0, -1), R + 2);
        edge.refuses(ONE, x -> x.of(0, MAX), R + 2);
        edge.refuses(ONE, x -> x.of(0, MIN), R + 2);
        edge.reads(EIGHT, x -> x.of(7, 7), 10);
        edge.refuses(EIGHT, x -> x.of(8, 7), R + 1);
    }

    private void miss() {
        edge.of(10, "MISS: east (what 0), north (1).");
        edge.reads("s1,-2*3;", x -> x.miss(0), 30);
        edge.reads("s1,-2*3;", x -> x.miss(1), -60);
        edge.reads("", x -> x.miss(0), 0);
        edge.reads("", x -> x.miss(1), 0);
        edge.reads(EdgesOfTerms.FIXED, x -> x.miss(1), 0);
        edge.reads("s9,9*9;".repeat(8) + "k0=1,9;k1=1,9;k2=1,9;k3=1,9;k4=1,9;k5=1,9;k6=1,9;k7=1,9;", x -> x.miss(0), 12312);
        edge.of(10, "Refused as told: -2.");
        edge.refuses("s1,-2*3;", x -> x.miss(2), R + 2);
        edge.refuses("s1,-2*3;", x -> x.miss(-1), R + 2);
        edge.refuses("", x -> x.miss(MAX), R + 2);
        edge.refuses("", x -> x.miss(MIN), R + 2);
    }
}
