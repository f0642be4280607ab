/** Edges of promises 36 to 39. */
final class EdgesOfChanges {
    private static final String ONE = EdgesOfTerms.ONE;
    private static final String EIGHT = EdgesOfTerms.EIGHT;

    private final Edge edge;

    EdgesOfChanges(Edge edge) {
        this.edge = edge;
    }

    void check() {
        undo();
        image();
        on();
        count();
        countOthers();
    }

    /** Changed so many times, though without SIDES. */
    private static TraverseClosed changed(int n) {
        TraverseClosed x = new TraverseClosed();
        for (int i = 0; i < n; i++) {
            x.turned();
        }
        return x;
    }

    private void undo() {
        edge.of(36, "The latest CHANGE is UNDONE: how many still can be.");
        for (int n = 1; n <= 10; n++) {
            TraverseClosed x = changed(n);
            int there = Math.min(n, 8);
            edge.is(x.count(4), there);
            for (int left = there - 1; left >= 0; left--) {
                edge.is(x.undo(), left);
                edge.is(x.count(4), left);
            }
            edge.is(x.undo(), -3);
        }
        // Each of the six calls, undone at once.
        TraverseClosed x = Edge.silent("s1,2*3;s4,5*6;k1=3,7;");
        int before = x.count(4);
        edge.is(x.side(1, 1, 1), 2);
        edge.is(x.undo(), before);
        edge.is(x.count(0), 2);
        edge.is(x.insert(1, 1, 1, 1), 1);
        edge.is(x.undo(), before);
        edge.is(x.of(1, 4), 6);
        edge.is(x.kind(1, 0, 0), 37);
        edge.is(x.undo(), before);
        edge.is(x.of(1, 0) * 10 + x.of(1, 1), 37);
        edge.is(x.gone(0), 1);
        edge.is(x.undo(), before);
        edge.is(x.of(0, 4), 3);
        edge.is(x.turned(), 2);
        edge.is(x.undo(), before);
        edge.is(x.of(0, 2), 1);
        edge.is(Due.tell(x, "d0;d0;r;"), 3);
        edge.is(x.undo(), before);
        edge.is(x.count(0), 2);
        edge.is(x.of(1, 3), 5);
        edge.of(36, "-3 there is none.");
        edge.refuses(() -> new TraverseClosed(), y -> y.undo(), -3);
        edge.refuses(() -> {
            TraverseClosed y = changed(1);
            y.undo();
            return y;
        }, y -> y.undo(), -3);
        edge.refuses(() -> {
            TraverseClosed y = Edge.made(ONE);
            y.on();
            return y;
        }, y -> y.undo(), -3);
    }

    private void image() {
        edge.of(37, "THE IMAGE is taken: how many SIDES.");
        edge.does("", x -> x.image(), 0);
        edge.does(ONE, x -> x.image(), 1);
        edge.does(EIGHT, x -> x.image(), 8);
        // It is no CHANGE, and those that are there can still be UNDONE.
        TraverseClosed x = changed(3);
        edge.is(x.image(), 0);
        edge.is(x.count(4), 3);
        edge.is(x.undo(), 2);
        edge.reads(ONE, y -> y.image(), 1);
    }

    private void on() {
        edge.of(38, "ON from it: how many SIDES.");
        edge.does("", x -> x.on(), 0);
        edge.does(ONE, x -> x.on(), 1);
        edge.does(EIGHT, x -> x.on(), 8);
        TraverseClosed x = Edge.made(EIGHT);
        edge.is(x.gone(0), 7);
        edge.is(x.row(1), 3);
        edge.is(x.on(), 8);
        edge.is(x.count(4), 0);
        // Letters, the ROW and LISTS are not of the image.
        edge.is(x.count(2), 2);
        edge.is(x.count(3), 3);
        edge.is(x.look(0, 8), -7);
        edge.of(38, "-3 there is none.");
        edge.refuses(() -> new TraverseClosed(), y -> y.on(), -3);
        edge.refuses(() -> changed(2), y -> y.on(), -3);
    }

    private void count() {
        edge.of(39, "0 SIDES, 1 W, 2 letters, 3 in the ROW, 4 CHANGES that can be UNDONE, 11 .. 16 REFUSALS -1 .. -6.");
        long[] want = {2, 333, 2, 2, 3};
        for (int i = 0; i <= 4; i++) {
            int what = i;
            edge.reads("s1,-2*3;s9,9*9;k1=2,0;", x -> x.count(what), want[what]);
        }
        TraverseClosed x = new TraverseClosed();
        // As many times each as its number: -1 once, -2 twice, ..
        x.gone(0);
        for (int i = 0; i < 2; i++) {
            x.miss(2);
        }
        for (int i = 0; i < 3; i++) {
            x.side(0, 0, 1);
        }
        for (int i = 0; i < 4; i++) {
            x.row(-1);
        }
        for (int i = 0; i < 6; i++) {
            x.row(100);
        }
        x.list(0, 0, -1);
        x.put(0, 0, 0);
        x.look(0, 0);
        x.tells();
        int[] refusals = {1, 2, 3, 4, 0, 6};
        for (int what = 11; what <= 16; what++) {
            edge.is(x.count(what), refusals[what - 11]);
        }
    }

    private void countOthers() {
        edge.of(39, "-9 for another what.");
        int[] others = {-1, 5, 6, 9, 10, 17, 18, -9, -11, Edge.MIN, Edge.MAX};
        for (int other : others) {
            edge.reads(ONE, x -> x.count(other), -9);
        }
        edge.reads(ONE, x -> x.count(4), 3);
        edge.reads(ONE, x -> x.count(11), 0);
        edge.reads(ONE, x -> x.count(16), 0);
    }
}
