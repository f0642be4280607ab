import java.math.BigInteger;

/** Edges of "Terms" about TOLD CORNERS, the ROW, LOTS, CHANGES and THE IMAGE. */
final class EdgesOfTold {
    private static final long R = Edge.R;
    private static final String ONE = EdgesOfTerms.ONE;
    private static final String SQUARE = EdgesOfTerms.SQUARE;
    private static final String OPEN = EdgesOfTerms.OPEN;

    private final Edge edge;

    EdgesOfTold(Edge edge) {
        this.edge = edge;
    }

    void check() {
        judged();
        judgedShort();
        row();
        howMuchOfTheRow();
        lots();
        draws();
        latestEight();
        whatIsAChange();
        theImage();
    }

    private static TraverseClosed laid(String text, int sort, int n) {
        TraverseClosed x = Edge.made(text);
        x.list(2, sort, n);
        x.lays(2, 0);
        return x;
    }

    private void judged() {
        edge.of(0, "JUDGED, number by number: the first CORNER of which it is otherwise"
            + " (east is looked at ahead of north); -9;");
        for (int sort = 0; sort <= 1; sort++) {
            edge.is(laid(SQUARE, sort, 8).judge(2), -9);
            for (int i = 0; i < 8; i++) {
                TraverseClosed x = laid(SQUARE, sort, 8);
                x.put(2, i, x.look(2, i) + 1);
                edge.is(x.judge(2), i / 2);
                x.put(2, i, x.look(2, i) - 2);
                edge.is(x.judge(2), i / 2);
                x.put(2, 7, 1);
                edge.is(x.judge(2), i / 2);
            }
        }
        // W of these five is 16: CORNERS told by hand.
        long[] told = {0, 0, 640, 0, 640, 320, 320, 0, 0, 320};
        for (int sort = 0; sort <= 1; sort++) {
            TraverseClosed five = Edge.made(EdgesOfTerms.TOUCHING);
            five.list(2, sort, 10);
            for (int i = 0; i < 10; i++) {
                five.put(2, i, -1);
            }
            for (int i = 0; i < 10; i++) {
                edge.is(five.judge(2), i / 2);
                five.put(2, i, told[i]);
            }
            edge.is(five.judge(2), -9);
            edge.is(five.lays(2, 0), 5);
            for (int i = 0; i < 10; i++) {
                edge.is(five.look(2, i), told[i]);
            }
        }
        // What is behind the last CORNER does not matter.
        TraverseClosed more = laid(SQUARE, 0, 9);
        more.put(2, 8, 1);
        edge.is(more.judge(2), -9);
        // Of longs all 64 bits matter; ints have what is left of them.
        TraverseClosed longs = laid(SQUARE, 0, 8);
        longs.put(2, 2, 9000L + (1L << 32));
        edge.is(longs.judge(2), 1);
        TraverseClosed ints = laid(SQUARE, 1, 8);
        ints.put(2, 2, 9000L + (1L << 32));
        edge.is(ints.judge(2), -9);
    }

    private void judgedShort() {
        edge.of(0, "100 and how many whole CORNERS were as they are, if the list ends ahead of that"
            + " (also between east and north of one).");
        int[] want = {100, 100, 101, 101, 102, 102, 103, 103, -9, -9};
        for (int n = 0; n <= 9; n++) {
            edge.is(laid(SQUARE, 0, n).judge(2), want[n]);
            edge.is(laid(SQUARE, 1, n).judge(2), want[n]);
        }
        // The list ends between east and north of CORNER 1, but its east is otherwise.
        TraverseClosed x = laid(SQUARE, 0, 3);
        x.put(2, 2, 9001);
        edge.is(x.judge(2), 1);
        TraverseClosed y = laid(SQUARE, 0, 1);
        y.put(2, 0, -1);
        edge.is(y.judge(2), 0);
    }

    private static TraverseClosed rowed(String text, int... numbers) {
        TraverseClosed x = Edge.made(text);
        x.clear();
        for (int v : numbers) {
            x.row(v);
        }
        return x;
    }

    private void row() {
        edge.of(0, "a ROW (numbers 0 .. 99; 9 at most)");
        edge.is(rowed(ONE).row(0), 1);
        edge.is(rowed(ONE).row(99), 1);
        edge.refuses(() -> rowed(ONE), x -> x.row(-1), -4);
        edge.refuses(() -> rowed(ONE), x -> x.row(100), -6);
        edge.is(rowed(ONE, 1, 2, 3, 4, 5, 6, 7, 8).row(9), 9);
        edge.refuses(() -> rowed(ONE, 1, 2, 3, 4, 5, 6, 7, 8, 9), x -> x.row(10), -6);
    }

    private void dueKinds(String text, int kinds, int figures, int... numbers) {
        TraverseClosed x = rowed(text, numbers);
        edge.is(x.whatIs(0, 0), kinds);
        edge.is(x.whatIs(0, 1), figures);
        edge.is(x.count(3), numbers.length);
    }

    private void howMuchOfTheRow() {
        edge.of(0, "(as many as it tells; of none all is so)");
        String chained = "s1,-1*7;k0=3,4;";
        dueKinds(chained, 63, 1023);
        // Plain 2, 4, 6, ..; twice 4, 8, ..; half 1, 2, 3, ..; FIXED 0.
        dueKinds(chained, 8, 1023, 1);
        dueKinds(chained, 3, 0, 2);
        dueKinds(chained, 36, 0, 4);
        dueKinds(chained, 16, 0, 0);
        dueKinds(chained, 0, 0, 3);
        dueKinds(chained, 8, 1023, 1, 2, 3, 4, 5, 6, 7, 8, 9);
        dueKinds(chained, 0, 0, 1, 2, 3, 4, 5, 6, 7, 8, 10);
        dueKinds(chained, 0, 0, 1, 3);
        dueKinds(chained, 3, 0, 2, 4, 6, 8, 10, 12, 14, 16, 18);
        dueKinds(chained, 16, 0, 0, 0, 0, 0, 0, 0, 0, 0, 0);
        // 1 at least: of 1,0 by TIMES 1, 2, 3, 4 half is 1, 1, 1, 2.
        dueKinds("s0,1*9;k0=3,9;", 11, 1023, 1);
        dueKinds("s0,1*9;k0=3,9;", 8, 1023, 1, 1, 1, 2);
        dueKinds("s0,1*9;k0=3,9;", 0, 0, 1, 1, 1, 1);
        dueKinds("s9,9*1;", 3, 1023, 18, 36, 54, 72, 90);
    }

    /** TIMES by a DRAW, with the seed held as 32 bits without a sign. */
    private static int drawn(long seed) {
        return (int) ((seed & 0x7fffffffL) / 256 % 9 + 1);
    }

    private static long nextSeed(long seed) {
        return (seed * 1664525L + 1013904223L) % (1L << 32);
    }

    private void lots() {
        edge.of(0, "LOTS with a seed z: n traverses (1 .. 20), each from now: TIMES of each SIDE, by numbers,"
            + " is a DRAW below 9 and 1: in how many W is above 0 and no two CROSS;"
            + " MISS as told at WORST, of all n traverses together (W no matter).");
        String two = "s1,0*9;s0,-1*9;";
        for (int n : new int[] {1, 2, 19, 20}) {
            int[] seeds = {0, 1, -1, Edge.MIN, Edge.MAX, -1013904223};
            for (int z : seeds) {
                long seed = z & 0xffffffffL;
                long miss = 0;
                for (int i = 0; i < 2 * n; i++) {
                    seed = nextSeed(seed);
                    miss += 10 * drawn(seed);
                }
                edge.reads(two, x -> x.lots(n, z, 1), miss);
                edge.reads(two, x -> x.lots(n, z, 0), n);
                edge.reads(two + "k0=4,0;k1=4,0;", x -> x.lots(n, z, 1), miss);
                edge.reads(two + "k0=4,0;k1=4,0;", x -> x.lots(n, z, 0), 0);
                edge.reads(two + "k0=4,0;k1=3,0;", x -> x.lots(n, z, 0), n);
            }
        }
        edge.refuses(two, x -> x.lots(0, 0, 0), -4);
        edge.refuses(two, x -> x.lots(21, 0, 0), -6);
        // Each from now: behind every change of SIDES.
        TraverseClosed now = Edge.made("s1,0*9;");
        edge.is(now.lots(1, 0, 1), 60);
        now.kind(0, 1, 5);
        edge.is(now.lots(1, 0, 1), 90);
        now.side(0, -1, 1);
        edge.is(now.lots(1, 0, 1), 130);
        now.gone(0);
        edge.is(now.lots(1, 0, 1), 60);
        now.on();
        edge.is(now.lots(1, 0, 1), 60);
        edge.is(now.lots(1, 0, 0), 1);
        edge.reads("", x -> x.lots(20, 0, 0), 0);
        edge.reads("", x -> x.lots(20, 0, 1), 0);
        // At one point all SIDES CROSS, if there are 4 of them, whatever TIMES are; 3 have none to CROSS.
        edge.reads("s1,0*9;".repeat(3), x -> x.lots(20, 5, 0), 20);
        edge.reads("s1,0*9;".repeat(4), x -> x.lots(20, 5, 0), 0);
    }

    private void draws() {
        edge.of(0, "A DRAW below m: z becomes z times 1664525 and 1013904223 (an int);"
            + " (z without its sign's bit by 256, cut) modulo m.");
        // Seeds that become 0, those on both sides of 256, of 9 times 256 and of the sign's bit, and -1.
        long[] becomes = {0, 255, 256, 2303, 2304, 0x7fffffffL, 0x80000000L, 0x800000ffL, 0x80000100L, 0xffffffffL};
        int[] times = {1, 1, 2, 9, 1, 8388607 % 9 + 1, 1, 1, 2, 8388607 % 9 + 1};
        for (int i = 0; i < becomes.length; i++) {
            int z = seedAheadOf(becomes[i]);
            long want = 10L * times[i];
            edge.reads("s1,0*9;", x -> x.lots(1, z, 1), want);
        }
    }

    private static int seedAheadOf(long seed) {
        BigInteger allInts = BigInteger.TWO.pow(32);
        BigInteger backwards = BigInteger.valueOf(1664525).modInverse(allInts);
        return BigInteger.valueOf(seed - 1013904223L).multiply(backwards).mod(allInts).intValue();
    }

    private void latestEight() {
        edge.of(0, "the latest 8 can be UNDONE, the latest first.");
        TraverseClosed x = new TraverseClosed();
        for (int i = 0; i < 8; i++) {
            edge.is(x.count(4), i);
            edge.is(x.side(1, 1, i + 1), i);
        }
        edge.is(x.count(4), 8);
        edge.is(x.gone(0), 7);
        edge.is(x.count(4), 8);
        edge.is(x.undo(), 7);
        edge.is(x.count(0), 8);
        edge.is(x.of(0, 4), 1);
        for (int left = 6; left >= 0; left--) {
            edge.is(x.undo(), left);
            edge.is(x.count(0), left + 1);
        }
        edge.is(x.undo(), -3);
        edge.is(x.count(0), 1);
        edge.is(x.count(13), 1);
    }

    private void whatIsAChange() {
        edge.of(0, "(each call as one, also one by which nothing became otherwise, as turned() without SIDES;"
            + " refused ones and FAULTS are none; one that is UNDONE does not come again)");
        TraverseClosed x = new TraverseClosed();
        edge.is(x.turned(), 0);
        edge.is(x.count(4), 1);
        edge.is(Due.tell(x, "r;r;r;"), 3);
        edge.is(x.count(4), 2);
        edge.is(Due.tell(x, "s1,1*1;d0;"), 2);
        edge.is(x.count(4), 3);
        edge.is(x.side(1, 2, 3), 0);
        edge.is(x.kind(0, 0, 0), 0);
        edge.is(x.count(4), 5);
        // Refused ones, FAULTS, and calls that are not among those named.
        edge.is(x.kind(1, 0, 0), -1);
        edge.is(x.kind(0, 6, 0), -2);
        edge.is(x.side(0, 0, 1), -3);
        edge.is(x.insert(1, 1, 1, 1), -1);
        edge.is(x.gone(1), -1);
        edge.is(Due.tell(x, "r;d9;"), -2002);
        edge.is(Due.tell(x, "r;x"), -1002);
        edge.is(x.row(1), 1);
        edge.is(x.list(0, 0, 1), 1);
        edge.is(x.put(0, 0, 1), 1);
        edge.is(x.image(), 1);
        edge.is(x.lots(1, 1, 1) > 0 ? 1 : 0, 1);
        edge.is(x.count(4), 5);
        edge.is(x.insert(0, 3, 4, 5), 0);
        edge.is(x.undo(), 5);
        edge.is(x.of(0, 2), 1);
        // Undone: the one undone next is the one ahead of it.
        edge.is(x.undo(), 4);
        edge.is(x.count(0), 1);
        edge.is(x.undo(), 3);
        edge.is(x.count(0), 0);
        edge.is(x.undo(), 2);
        edge.is(x.count(0), 0);
        edge.is(x.count(3), 1);
        edge.is(x.look(0, 0), 1);
    }

    private void theImage() {
        edge.of(0, "THE IMAGE: SIDES with all that is theirs; ON from it these are as then (and no CHANGES).");
        edge.refuses(() -> new TraverseClosed(), x -> x.on(), -3);
        TraverseClosed x = new TraverseClosed();
        edge.is(x.image(), 0);
        edge.is(x.on(), 0);
        edge.is(Due.tell(x, "s-9,8*7;s1,0*1;k0=5,9;k1=3,1;"), 4);
        edge.is(x.image(), 2);
        edge.is(x.count(4), 1);
        edge.is(x.gone(0), 1);
        edge.is(x.kind(0, 2, 2), 31);
        edge.is(x.count(4), 3);
        edge.is(x.on(), 2);
        edge.is(x.count(4), 0);
        edge.is(x.undo(), -3);
        long[] first = {5, 9, -9, 8, 7};
        long[] second = {3, 1, 1, 0, 1};
        for (int what = 0; what <= 4; what++) {
            edge.is(x.of(0, what), first[what]);
            edge.is(x.of(1, what), second[what]);
        }
        // The image stays as it was, whatever comes behind, and is ON as often as asked.
        edge.is(x.turned(), 2);
        edge.is(x.gone(1), 1);
        edge.is(x.on(), 2);
        edge.is(x.of(0, 2), -9);
        // A later one is taken in its stead, of eight, then of none.
        edge.is(Due.tell(x, "s1,1*1;".repeat(6)), 6);
        edge.is(x.image(), 8);
        for (int i = 7; i >= 0; i--) {
            edge.is(x.gone(0), i);
        }
        edge.is(x.on(), 8);
        edge.is(x.of(1, 0), 3);
        edge.is(x.of(8, 0), R + 1);
        edge.is(laid(OPEN, 0, 4).on(), 2);
    }
}
