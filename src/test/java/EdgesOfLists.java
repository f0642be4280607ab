/** Edges of promises 26 to 35. */
final class EdgesOfLists {
    private static final long R = Edge.R;
    private static final int MIN = Edge.MIN;
    private static final int MAX = Edge.MAX;
    private static final String ONE = EdgesOfTerms.ONE;
    private static final String SQUARE = EdgesOfTerms.SQUARE;
    private static final String OPEN = EdgesOfTerms.OPEN;
    private static final String FIXED = EdgesOfTerms.FIXED;
    private static final int[] NOT_ONE_OF_TWO = {-1, 2, MIN, MAX};
    private static final int[] NO_LIST = {-1, 3, MIN, MAX};

    private final Edge edge;

    EdgesOfLists(Edge edge) {
        this.edge = edge;
    }

    void check() {
        whatIs();
        row();
        clear();
        lots();
        list();
        put();
        putLowestBits();
        look();
        copy();
        copyPlaces();
        copyAsTheyWere();
        lays();
        laysSome();
        judge();
    }

    /** Made as others are, with the numbers n, n - 1, .. 1 behind what is in the ROW of two. */
    private static TraverseClosed rowed(int n) {
        TraverseClosed x = Edge.made(ONE);
        for (int v = n - 2; v >= 1; v--) {
            x.row(v);
        }
        return x;
    }

    private void whatIs() {
        edge.of(26, "WHAT KIND by the ROW (it stays): KINDS (what 0), FIGURES (1), bits.");
        // The ROW that is there tells 15, 30.
        edge.reads("s-9,6*1;", x -> x.whatIs(0, 0), 3);
        edge.reads("s-9,6*1;", x -> x.whatIs(0, 1), 1023);
        edge.reads("s-9,6*1;k0=2,0;", x -> x.whatIs(0, 1), 0);
        edge.reads("s9,6*1;s1,1*1;", x -> x.whatIs(1, 0), 0);
        edge.of(26, "-1; -2.");
        edge.refuses(ONE, x -> x.whatIs(1, 0), -1);
        edge.refuses(ONE, x -> x.whatIs(-1, 2), -1);
        edge.refuses(ONE, x -> x.whatIs(MAX, 0), -1);
        edge.refuses(ONE, x -> x.whatIs(MIN, 0), -1);
        edge.refuses("", x -> x.whatIs(0, 0), -1);
        for (int other : NOT_ONE_OF_TWO) {
            edge.refuses(ONE, x -> x.whatIs(0, other), -2);
            edge.refuses(ONE, x -> x.whatIs(1, other), -1);
        }
    }

    private void row() {
        edge.of(27, "A number more of the ROW (0 .. 99): how many.");
        edge.is(rowed(2).row(0), 3);
        edge.is(rowed(2).row(99), 3);
        edge.is(rowed(8).row(99), 9);
        edge.of(27, "-4; -6 (99; 9, too).");
        edge.refuses(() -> rowed(2), x -> x.row(-1), -4);
        edge.refuses(() -> rowed(2), x -> x.row(MIN), -4);
        edge.refuses(() -> rowed(9), x -> x.row(-1), -4);
        edge.refuses(() -> rowed(2), x -> x.row(100), -6);
        edge.refuses(() -> rowed(2), x -> x.row(MAX), -6);
        edge.refuses(() -> rowed(9), x -> x.row(0), -6);
        edge.refuses(() -> rowed(9), x -> x.row(99), -6);
        edge.refuses(() -> rowed(9), x -> x.row(100), -6);
    }

    private void clear() {
        edge.of(28, "The ROW has none then: how many it had.");
        edge.is(rowed(2).clear(), 2);
        edge.is(rowed(9).clear(), 9);
        TraverseClosed x = rowed(9);
        edge.is(x.clear(), 9);
        edge.is(x.clear(), 0);
        edge.is(x.count(3), 0);
        edge.is(x.whatIs(0, 0), 63);
        edge.is(x.row(2), 1);
        edge.is(x.whatIs(0, 0), 3);
    }

    private void lots() {
        edge.of(29, "LOTS: in how many (what 0), MISS (1). -4 (below 1); -6 20; -2.");
        edge.reads("s1,0*9;", x -> x.lots(1, 0, 0), 1);
        edge.reads("s1,0*9;", x -> x.lots(1, 0, 1), 60);
        edge.reads("s1,0*9;", x -> x.lots(20, 0, 0), 20);
        edge.refuses(ONE, x -> x.lots(0, 0, 0), -4);
        edge.refuses(ONE, x -> x.lots(MIN, 0, 2), -4);
        edge.refuses(ONE, x -> x.lots(21, 0, 0), -6);
        edge.refuses(ONE, x -> x.lots(MAX, 0, 2), -6);
        for (int other : NOT_ONE_OF_TWO) {
            edge.refuses(ONE, x -> x.lots(1, 0, other), -2);
            edge.refuses(ONE, x -> x.lots(20, 0, other), -2);
            edge.refuses("", x -> x.lots(20, 0, other), -2);
        }
        edge.reads("", x -> x.lots(1, MIN, 0), 0);
        edge.reads(FIXED, x -> x.lots(20, MAX, 0), 0);
    }

    private void list() {
        edge.of(30, "A LIST becomes a row of n longs (sort 0), ints (1), all 0: 1.");
        for (int sort = 0; sort <= 1; sort++) {
            for (int n = 0; n <= 20; n += 5) {
                TraverseClosed x = Edge.made(ONE);
                x.list(0, sort, 20);
                for (int i = 0; i < 20; i++) {
                    x.put(0, i, -1);
                }
                edge.is(x.list(0, sort, n), 1);
                for (int i = 0; i < n; i++) {
                    edge.is(x.look(0, i), 0);
                }
                edge.is(x.look(0, n), R + 13);
                edge.is(x.put(0, n, 1), -13);
                // What it was is not there again, when it is longer again.
                edge.is(x.list(0, 1 - sort, 20), 1);
                edge.is(x.look(0, 19), 0);
            }
        }
        edge.of(30, "-1; -2; -6 20; -14.");
        for (int other : NO_LIST) {
            edge.refuses(ONE, x -> x.list(other, 2, 21), -1);
            edge.refuses(ONE, x -> x.list(other, 0, 1), -1);
        }
        for (int other : NOT_ONE_OF_TWO) {
            edge.refuses(ONE, x -> x.list(0, other, 1), -2);
            edge.refuses(ONE, x -> x.list(0, other, 21), -2);
            edge.refuses(ONE, x -> x.list(2, other, -1), -2);
        }
        edge.does(ONE, x -> x.list(2, 1, 20), 1);
        edge.refuses(ONE, x -> x.list(2, 1, 21), -6);
        edge.refuses(ONE, x -> x.list(0, 1, MAX), -6);
        edge.does(ONE, x -> x.list(0, 0, 0), 1);
        edge.refuses(ONE, x -> x.list(0, 0, -1), -14);
        edge.refuses(ONE, x -> x.list(2, 1, MIN), -14);
    }

    private void put() {
        edge.of(31, "-1; -11; -13.");
        for (int other : NO_LIST) {
            edge.refuses(ONE, x -> x.put(other, 99, 1), -1);
        }
        edge.refuses(ONE, x -> x.put(2, 0, 1), -11);
        edge.refuses(ONE, x -> x.put(2, -1, 1), -11);
        edge.does(ONE, x -> x.put(0, 0, 1), 1);
        edge.does(ONE, x -> x.put(0, 8, 1), 1);
        edge.refuses(ONE, x -> x.put(0, 9, 1), -13);
        edge.refuses(ONE, x -> x.put(0, -1, 1), -13);
        edge.refuses(ONE, x -> x.put(0, MAX, 1), -13);
        edge.refuses(ONE, x -> x.put(0, MIN, 1), -13);
        edge.refuses(ONE, x -> x.put(1, 3, 1), -13);
        TraverseClosed none = Edge.made(ONE);
        none.list(0, 0, 0);
        edge.is(none.put(0, 0, 1), -13);
    }

    private void putLowestBits() {
        edge.of(31, "Place i of a LIST becomes v (of ints its lowest 32 bits): 1.");
        long[] values = {0, -1, MAX, MIN, MAX + 1L, MIN - 1L, 1L << 32, (1L << 32) - 1, (1L << 32) + 5,
            Long.MAX_VALUE, Long.MIN_VALUE, Long.MIN_VALUE + 3};
        long[] asInts = {0, -1, MAX, MIN, MIN, MAX, 0, -1, 5, -1, 0, 3};
        for (int i = 0; i < values.length; i++) {
            TraverseClosed x = Edge.made(ONE);
            edge.is(x.put(1, 2, values[i]), 1);
            edge.is(x.look(1, 2), asInts[i]);
            edge.is(x.look(1, 1), 5);
            edge.is(x.put(0, 8, values[i]), 1);
            edge.is(x.look(0, 8), values[i]);
            edge.is(x.look(0, 2), 1L << 40);
        }
    }

    private void look() {
        edge.of(32, "Place i of a LIST. Refused as told: -1; -11; -13.");
        edge.reads(ONE, x -> x.look(0, 8), -7);
        edge.reads(ONE, x -> x.look(1, 1), 5);
        for (int other : NO_LIST) {
            edge.refuses(ONE, x -> x.look(other, 99), R + 1);
            edge.refuses(ONE, x -> x.look(other, 0), R + 1);
        }
        edge.refuses(ONE, x -> x.look(2, 0), R + 11);
        edge.refuses(ONE, x -> x.look(2, -1), R + 11);
        edge.refuses(ONE, x -> x.look(0, 9), R + 13);
        edge.refuses(ONE, x -> x.look(0, -1), R + 13);
        edge.refuses(ONE, x -> x.look(1, 3), R + 13);
        edge.refuses(ONE, x -> x.look(1, MAX), R + 13);
        edge.refuses(ONE, x -> x.look(1, MIN), R + 13);
    }

    /** LIST 0 of longs 1 .. 5, LIST 1 of ints 1 .. 5, LIST 2 as told: longs or ints, or missing. */
    private static TraverseClosed listed(int sort, int n) {
        TraverseClosed x = Edge.silent(ONE);
        x.list(0, 0, 5);
        x.list(1, 1, 5);
        for (int i = 0; i < 5; i++) {
            x.put(0, i, i + 1);
            x.put(1, i, i + 1);
        }
        if (n >= 0) {
            x.list(2, sort, n);
        }
        return x;
    }

    private void copy() {
        edge.of(33, "-1 either; -11 either; -12;");
        for (int other : NO_LIST) {
            edge.refuses(() -> listed(0, -1), x -> x.copy(other, 0, 0, 0, 1), -1);
            edge.refuses(() -> listed(0, -1), x -> x.copy(0, 0, other, 0, 1), -1);
            edge.refuses(() -> listed(0, -1), x -> x.copy(other, -1, 2, 0, -1), -1);
            edge.refuses(() -> listed(0, -1), x -> x.copy(2, -1, other, 0, -1), -1);
        }
        edge.refuses(() -> listed(0, -1), x -> x.copy(2, 0, 0, 0, 1), -11);
        edge.refuses(() -> listed(0, -1), x -> x.copy(0, 0, 2, 0, 1), -11);
        edge.refuses(() -> listed(0, -1), x -> x.copy(2, 0, 2, 0, 0), -11);
        edge.refuses(() -> listed(0, -1), x -> x.copy(1, 9, 2, -1, -1), -11);
        edge.refuses(() -> listed(0, 5), x -> x.copy(0, 0, 1, 0, 1), -12);
        edge.refuses(() -> listed(0, 5), x -> x.copy(1, 0, 0, 0, 1), -12);
        edge.refuses(() -> listed(0, 5), x -> x.copy(1, 9, 2, -1, -1), -12);
        edge.refuses(() -> listed(0, 5), x -> x.copy(0, 0, 1, 0, 0), -12);
        edge.is(listed(0, 5).copy(0, 0, 2, 0, 5), 5);
        edge.is(listed(1, 5).copy(1, 0, 2, 0, 5), 5);
    }

    private void copyPlaces() {
        edge.of(33, "-13 (n below 0, too).");
        edge.is(listed(0, 3).copy(0, 2, 2, 0, 3), 3);
        edge.refuses(() -> listed(0, 3), x -> x.copy(0, 3, 2, 0, 3), -13);
        edge.refuses(() -> listed(0, 3), x -> x.copy(0, 2, 2, 1, 3), -13);
        edge.refuses(() -> listed(0, 3), x -> x.copy(0, 1, 2, 0, 4), -13);
        edge.refuses(() -> listed(0, 3), x -> x.copy(0, -1, 2, 0, 1), -13);
        edge.refuses(() -> listed(0, 3), x -> x.copy(0, 0, 2, -1, 1), -13);
        edge.is(listed(0, 3).copy(0, 4, 2, 2, 1), 1);
        edge.refuses(() -> listed(0, 3), x -> x.copy(0, 5, 2, 2, 1), -13);
        edge.refuses(() -> listed(0, 3), x -> x.copy(0, 4, 2, 3, 1), -13);
        edge.is(listed(0, 3).copy(0, 0, 2, 0, 0), 0);
        edge.refuses(() -> listed(0, 3), x -> x.copy(0, 0, 2, 0, -1), -13);
        edge.refuses(() -> listed(0, 3), x -> x.copy(0, 0, 2, 0, MIN), -13);
        edge.refuses(() -> listed(0, 3), x -> x.copy(0, MAX, 2, 0, 1), -13);
        edge.refuses(() -> listed(0, 3), x -> x.copy(0, 1, 2, MAX, 1), -13);
        edge.refuses(() -> listed(0, 3), x -> x.copy(0, 1, 2, 1, MAX), -13);
        edge.refuses(() -> listed(0, 3), x -> x.copy(0, MAX, 2, MAX, MAX), -13);
        edge.refuses(() -> listed(0, 3), x -> x.copy(0, MIN, 2, MIN, MAX), -13);
        edge.refuses(() -> listed(0, 5), x -> x.copy(0, 1, 0, 0, 5), -13);
        edge.refuses(() -> listed(0, 0), x -> x.copy(0, 0, 2, 0, 1), -13);
        edge.refuses(() -> listed(0, 0), x -> x.copy(2, 0, 0, 0, 1), -13);
        edge.is(listed(0, 0).copy(2, 0, 0, 5, 0), 0);
    }

    private void dueList(TraverseClosed x, int list, int... want) {
        for (int i = 0; i < want.length; i++) {
            edge.is(x.look(list, i), want[i]);
        }
        edge.is(x.look(list, want.length), R + 13);
    }

    private void copyAsTheyWere() {
        edge.of(33, "n numbers of a LIST, from place i on, come to another one's (or its own) from j on, as they were: n.");
        for (int list = 0; list <= 1; list++) {
            TraverseClosed up = listed(0, -1);
            edge.is(up.copy(list, 0, list, 1, 4), 4);
            dueList(up, list, 1, 1, 2, 3, 4);
            TraverseClosed down = listed(0, -1);
            edge.is(down.copy(list, 1, list, 0, 4), 4);
            dueList(down, list, 2, 3, 4, 5, 5);
            TraverseClosed same = listed(0, -1);
            edge.is(same.copy(list, 0, list, 0, 5), 5);
            dueList(same, list, 1, 2, 3, 4, 5);
            TraverseClosed none = listed(0, -1);
            edge.is(none.copy(list, 4, list, 0, 0), 0);
            dueList(none, list, 1, 2, 3, 4, 5);
            TraverseClosed another = listed(list, 4);
            edge.is(another.copy(list, 2, 2, 1, 3), 3);
            dueList(another, 2, 0, 3, 4, 5);
            dueList(another, list, 1, 2, 3, 4, 5);
            dueList(another, 1 - list, 1, 2, 3, 4, 5);
        }
        TraverseClosed longs = listed(0, 1);
        longs.put(0, 4, Long.MIN_VALUE + 1);
        edge.is(longs.copy(0, 4, 2, 0, 1), 1);
        edge.is(longs.look(2, 0), Long.MIN_VALUE + 1);
    }

    private static TraverseClosed ready(String text, int sort, int n) {
        TraverseClosed x = Edge.silent(text);
        x.list(2, sort, n);
        for (int i = 0; i < n; i++) {
            x.put(2, i, 7);
        }
        return x;
    }

    private void lays() {
        edge.of(34, "TOLD CORNERS are laid into a LIST (as its sort takes them) from place i on: how many CORNERS.");
        for (int sort = 0; sort <= 1; sort++) {
            // W is 4: 15/2 is 30.
            TraverseClosed x = ready(OPEN, sort, 6);
            edge.is(x.lays(2, 1), 2);
            dueList(x, 2, 7, 0, 0, 30, -30, 7);
            TraverseClosed last = ready(OPEN, sort, 6);
            edge.is(last.lays(2, 2), 2);
            dueList(last, 2, 7, 7, 0, 0, 30, -30);
            TraverseClosed eight = ready("s1,0*1;".repeat(8), sort, 16);
            edge.is(eight.lays(2, 0), 8);
            edge.is(eight.look(2, 15), 0);
        }
        edge.of(34, "-1; -3; -11;");
        for (int other : NO_LIST) {
            edge.refuses(SQUARE, x -> x.lays(other, 0), -1);
            edge.refuses(FIXED, x -> x.lays(other, -1), -1);
        }
        edge.refuses(FIXED, x -> x.lays(0, 0), -3);
        edge.refuses(FIXED, x -> x.lays(2, -1), -3);
        edge.refuses("", x -> x.lays(0, 0), -3);
        edge.refuses("", x -> x.lays(2, 0), -3);
        edge.refuses(SQUARE, x -> x.lays(2, 0), -11);
        edge.refuses(SQUARE, x -> x.lays(2, -1), -11);
        edge.does("s1,0*1;k0=3,0;", x -> x.lays(0, 7), 1);
        edge.does("s1,0*1;k0=3,0;", x -> x.lays(0, 8), -13);
    }

    private void laysSome() {
        edge.of(34, "-13: not all of it had a place (what had one ahead of the first that had none is laid).");
        int[] corners = {0, 0, 30, -30};
        for (int sort = 0; sort <= 1; sort++) {
            for (int place = 0; place <= 6; place++) {
                TraverseClosed x = ready(OPEN, sort, 6);
                edge.is(x.lays(2, place), place <= 2 ? 2 : -13);
                int[] want = {7, 7, 7, 7, 7, 7};
                for (int i = 0; i < 4 && place + i < 6; i++) {
                    want[place + i] = corners[i];
                }
                dueList(x, 2, want);
                for (int what = 11; what <= 16; what++) {
                    edge.is(x.count(what), 0);
                }
            }
            int[] noPlaces = {6, 7, -1, -2, MIN, MAX, MAX - 2};
            for (int place : noPlaces) {
                int sorted = sort;
                edge.refuses(() -> ready(OPEN, sorted, 6), x -> x.lays(2, place), -13);
            }
            int none = sort;
            edge.refuses(() -> ready(OPEN, none, 0), x -> x.lays(2, 0), -13);
        }
    }

    private void judge() {
        edge.of(35, "JUDGED; -9. -1; -3; -11.");
        for (int sort = 0; sort <= 1; sort++) {
            TraverseClosed x = ready(OPEN, sort, 4);
            edge.is(x.judge(2), 0);
            edge.is(x.lays(2, 0), 2);
            edge.is(x.judge(2), -9);
            x.put(2, 3, -29);
            edge.is(x.judge(2), 1);
            edge.is(ready(OPEN, sort, 0).judge(2), 100);
        }
        for (int other : NO_LIST) {
            edge.refuses(SQUARE, x -> x.judge(other), -1);
            edge.refuses(FIXED, x -> x.judge(other), -1);
        }
        edge.refuses(FIXED, x -> x.judge(0), -3);
        edge.refuses(FIXED, x -> x.judge(2), -3);
        edge.refuses("", x -> x.judge(2), -3);
        edge.refuses(SQUARE, x -> x.judge(2), -11);
        edge.reads("s1,0*1;k0=3,0;", x -> x.judge(0), -9);
        edge.reads(SQUARE, x -> x.judge(0), 1);
    }
}
