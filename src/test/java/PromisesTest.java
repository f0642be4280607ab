/** Promises 1 to 39, each by answers worked out by hand from the document. */
public final class PromisesTest {
    private static final String SQUARE = "s3,0*5;s0,3*5;s-3,0*5;s0,-3*5;";
    private static final String ALL_FIXED = "s1,0*1;s0,1*1;s-1,-1*1;k0=4,0;k1=4,0;k2=4,0;";
    private static final String BOW_TIE = "s3,3*1;s0,-3*1;s-3,3*1;s0,-3*1;";
    /** Corners 0,0; 40,0; 40,20; 20,0; 0,20: corner 3 is on side 0. */
    private static final String TOUCHING = "s4,0*1;s0,2*1;s-2,-2*1;s-2,2*1;s0,-2*1;";
    /** Misses by 10, 30; W is 4; corner 1 is 15/2, -15/2. */
    private static final String OPEN = "s1,0*1;s0,1*3;";
    private static final long R = Due.REFUSED;
    private static final int MIN = Integer.MIN_VALUE;
    private static final int MAX = Integer.MAX_VALUE;

    private static final Due due = new Due();

    public static void main(String[] args) {
        newObject();
        letter();
        tellsWhole();
        tellsFaultsOfLetters();
        tellsFaultsOfStatements();
        side();
        insert();
        kind();
        gone();
        turned();
        of();
        miss();
        spread();
        corner();
        area();
        turn();
        cross();
        crosses();
        outline();
        hull();
        lost();
        lengths();
        worst();
        order();
        likely();
        parcel();
        cut();
        whatIs();
        row();
        clear();
        lots();
        list();
        putAndLook();
        copy();
        lays();
        judge();
        undo();
        image();
        on();
        count();
        due.end();
    }

    /** All refusals -1 .. -6, told as six digits (of up to 9 each). */
    private static int refusals(TraverseClosed x) {
        int digits = 0;
        for (int what = 11; what <= 16; what++) {
            digits = 10 * digits + x.count(what);
        }
        return digits;
    }

    private static void dueFraction(String call, long above, long below, long wantAbove, long wantBelow) {
        due.is(call + " above", above, wantAbove);
        due.is(call + " below", below, wantBelow);
    }

    private static void newObject() {
        due.about("promise 1");
        TraverseClosed x = new TraverseClosed();
        for (int what = 0; what <= 4; what++) {
            due.is("count " + what, x.count(what), 0);
        }
        due.is("refusals", refusals(x), 0);
        due.is("miss", x.miss(0), 0);
        due.is("of", x.of(0, 0), R + 1);
        due.is("list missing", x.look(0, 0), R + 11);
        due.is("no image", x.on(), -3);
        due.is("no change", x.undo(), -3);
    }

    private static void letter() {
        due.about("promise 2");
        TraverseClosed x = new TraverseClosed();
        due.is("0", x.letter(0), 1);
        due.is("255", x.letter(255), 2);
        due.is("-1", x.letter(-1), -4);
        due.is("least int", x.letter(MIN), -4);
        due.is("256", x.letter(256), -6);
        due.is("greatest int", x.letter(MAX), -6);
        for (int i = 3; i <= 120; i++) {
            due.is("the " + i + "-th", x.letter('r'), i);
        }
        due.is("the 121-st", x.letter('r'), -6);
        due.is("-1, though full", x.letter(-1), -4);
        due.is("letters", x.count(2), 120);
        due.is("refusals", refusals(x), 303);
        due.is("letter 0 begins nothing", x.tells(), -1000);
        due.is("room again", x.letter('r'), 1);
    }

    private static void tellsWhole() {
        due.about("promise 3, whole");
        TraverseClosed x = new TraverseClosed();
        due.is("all sorts", Due.tell(x, "s1,-2*3;s-0,9*9;i1:-4,5*6;k2=3,7;r;d0;r;"), 7);
        due.is("sides", x.count(0), 2);
        due.is("letters", x.count(2), 0);
        due.is("one change", x.count(4), 1);
        int[] first = {0, 0, 1, -2, 3};
        int[] second = {0, 0, -4, 5, 6};
        for (int what = 0; what < 5; what++) {
            due.is("first " + what, x.of(0, what), first[what]);
            due.is("second " + what, x.of(1, what), second[what]);
        }
        due.is("undone as one", x.undo(), 0);
        due.is("no sides", x.count(0), 0);
        due.is("turned without sides", Due.tell(x, "r;"), 1);
        due.is("is a change", x.count(4), 1);
        due.is("behind what is there", Due.tell(x, "s1,1*1;") + Due.tell(x, "k0=5,9;"), 2);
        due.is("kind", x.of(0, 0), 5);
        due.is("figure", x.of(0, 1), 9);
        due.is("-0 is 0", Due.tell(x, "s-0,-9*1;") + 10 * x.of(1, 2), 1);
        due.is("120 letters", Due.tell(x, "r;".repeat(60)), 60);
        due.is("a turn undone by another", x.of(1, 3), -9);
    }

    private static void dueFault(String text, int want) {
        TraverseClosed x = Due.of("s1,2*3;");
        due.is(text, Due.tell(x, text), want);
        due.is(text + ": sides", x.count(0), 1);
        due.is(text + ": letters", x.count(2), 0);
        due.is(text + ": changes", x.count(4), 1);
        due.is(text + ": refusals", refusals(x), 0);
        due.is(text + ": side as it was", x.of(0, 0) + x.of(0, 1) + 100 * x.of(0, 2) + 10 * x.of(0, 3) + x.of(0, 4), 123);
    }

    private static void tellsFaultsOfLetters() {
        due.about("promise 3, kind 1");
        String[] forms = {"s-1,-2*3;", "i0:-1,-2*3;", "k0=1,2;", "d0;", "r;"};
        for (String form : forms) {
            for (int i = 0; i < form.length(); i++) {
                dueFault(form.substring(0, i), -1000 - i);
                if (i > 0) {
                    dueFault("r;" + form.substring(0, i), -1002 - i);
                }
                dueFault(form.substring(0, i) + "x", -1000 - i);
                dueFault(form.substring(0, i) + " " + form.substring(i), -1000 - i);
            }
        }
        due.about("promise 3, kind 1, special ones");
        dueFault("s--1,2*3;", -1002);
        dueFault("s1,--2*3;", -1004);
        dueFault("s1,2*-3;", -1005);
        dueFault("s10,2*3;", -1002);
        dueFault("s1-,2*3;", -1002);
        dueFault("i-0:1,2*3;", -1001);
        dueFault("k0=-1,2;", -1003);
        dueFault("k0=1,-2;", -1005);
        dueFault("d00;", -1002);
        dueFault("r0;", -1001);
        dueFault(";", -1000);
        dueFault("r;;", -1002);
        dueFault("S1,2*3;", -1000);
        dueFault("s/,2*3;", -1001);
        dueFault("s:,2*3;", -1001);
        dueFault("d9;r;d9;x", -1008);
        dueFault("d9;r;d9", -1007);
        dueFault("r", -1001);
        dueFault("~", -1000);
        dueFault("#", -1000);
        dueFault("d#", -1001);
        dueFault("s~", -1001);
    }

    private static void tellsFaultsOfStatements() {
        due.about("promise 3, kind 2");
        dueFault("s0,0*3;", -2000);
        dueFault("s-0,-0*3;", -2000);
        dueFault("s1,2*0;", -2000);
        dueFault("i1:1,2*3;", -2000);
        dueFault("i0:0,0*3;", -2000);
        dueFault("i0:1,2*0;", -2000);
        dueFault("k1=0,0;", -2000);
        dueFault("k0=6,0;", -2000);
        dueFault("d1;", -2000);
        dueFault("d9;d9;r;d9;", -2000);
        dueFault("i0:0,0*0;d9;", -2000);
        dueFault("r;d0;d0;", -2005);
        dueFault("d0;k0=0,0;d9;", -2003);
        dueFault("s1,1*1;d1;d1;r;", -2010);
        dueFault("s1,1*1;".repeat(7) + "s1,1*1;", -2049);
        dueFault("s1,1*1;".repeat(7) + "i0:1,1*1;d9;", -2049);
        TraverseClosed x = new TraverseClosed();
        due.is("the 8-th has room", Due.tell(x, "s1,1*1;".repeat(8)), 8);
        due.is("east or north may be 0", Due.tell(x, "d0;d0;i0:0,1*1;i0:1,0*1;"), 4);
        due.is("room behind one that is gone", Due.tell(x, "d0;s2,2*2;"), 2);
        due.is("the last", x.of(7, 4), 2);
    }

    private static void side() {
        due.about("promise 4");
        TraverseClosed x = new TraverseClosed();
        due.is("least", x.side(-9, -9, 1), 0);
        due.is("greatest", x.side(9, 9, 9), 1);
        due.is("east too low", x.side(-10, 0, 1), -4);
        due.is("north too low", x.side(0, -10, 1), -4);
        due.is("times too low", x.side(1, 1, 0), -4);
        due.is("low ahead of high", x.side(10, 10, 0), -4);
        due.is("east too high", x.side(10, 0, 1), -6);
        due.is("north too high", x.side(0, 10, 1), -6);
        due.is("times too high", x.side(1, 1, 10), -6);
        due.is("high ahead of both 0", x.side(0, 0, 10), -6);
        due.is("both 0", x.side(0, 0, 1), -3);
        due.is("far off", x.side(MIN, MAX, MAX), -4);
        due.is("sides", x.count(0), 2);
        due.is("refusals", refusals(x), 1504);
        due.is("east alone", x.side(0, 1, 1), 2);
        due.is("north alone", x.side(1, 0, 1), 3);
        for (int i = 4; i < 8; i++) {
            due.is("the next", x.side(1, i, 1), i);
        }
        due.is("no room", x.side(1, 1, 1), -6);
        due.is("no room, both 0", x.side(0, 0, 1), -6);
        due.is("no room, low", x.side(1, 1, 0), -4);
        due.is("8 changes", x.count(4), 8);
        due.is("kind", x.of(7, 0), 0);
        due.is("figure", x.of(7, 1), 0);
    }

    private static void insert() {
        due.about("promise 5");
        TraverseClosed x = new TraverseClosed();
        due.is("nobody there", x.insert(0, 1, 1, 1), -1);
        Due.tell(x, "s1,1*1;s2,2*2;k0=1,5;k1=2,6;");
        due.is("-1", x.insert(-1, 1, 1, 1), -1);
        due.is("behind the last", x.insert(2, 1, 1, 1), -1);
        due.is("nobody ahead of all", x.insert(MAX, -99, 99, 0), -1);
        due.is("low", x.insert(0, -10, 1, 1), -4);
        due.is("low", x.insert(0, 1, -10, 1), -4);
        due.is("low", x.insert(0, 1, 1, 0), -4);
        due.is("high", x.insert(0, 10, 1, 1), -6);
        due.is("high", x.insert(0, 1, 10, 1), -6);
        due.is("high", x.insert(0, 1, 1, 10), -6);
        due.is("both 0", x.insert(0, 0, 0, 1), -3);
        due.is("refusals", refusals(x), 401303);
        due.is("ahead of the last", x.insert(1, 3, 4, 5), 1);
        due.is("order", 100 * x.of(0, 4) + 10 * x.of(1, 4) + x.of(2, 4), 152);
        due.is("kinds", 100 * x.of(0, 0) + 10 * x.of(1, 0) + x.of(2, 0), 102);
        due.is("figures", 100 * x.of(0, 1) + 10 * x.of(1, 1) + x.of(2, 1), 506);
        due.is("ahead of the first", x.insert(0, 6, 7, 8), 0);
        due.is("east", 1000 * x.of(0, 2) + 100 * x.of(1, 2) + 10 * x.of(2, 2) + x.of(3, 2), 6132);
        due.is("north", 1000 * x.of(0, 3) + 100 * x.of(1, 3) + 10 * x.of(2, 3) + x.of(3, 3), 7142);
        Due.tell(x, "s1,1*1;".repeat(4));
        due.is("no room", x.insert(7, 1, 1, 1), -6);
        due.is("undone", 10 * x.undo() + x.undo(), 32);
        due.is("undone", x.of(0, 2), 1);
    }

    private static void kind() {
        due.about("promise 6");
        TraverseClosed x = Due.of("s1,1*1;s2,1*1;");
        due.is("from 0, 0", x.kind(1, 5, 9), 0);
        due.is("from 5, 9", x.kind(1, 3, 0), 59);
        due.is("from 3, 0", x.kind(1, 0, 7), 30);
        due.is("the same again", x.kind(1, 0, 7), 7);
        due.is("changes", x.count(4), 5);
        due.is("the other", x.of(0, 0) + x.of(0, 1), 0);
        due.is("nobody", x.kind(2, 6, 10), -1);
        due.is("nobody", x.kind(-1, 6, 10), -1);
        due.is("kind -1", x.kind(0, -1, 10), -2);
        due.is("kind 6", x.kind(0, 6, -1), -2);
        due.is("figure -1", x.kind(0, 1, -1), -4);
        due.is("figure 10", x.kind(0, 1, 10), -6);
        due.is("refusals", refusals(x), 220101);
        due.is("nothing changed", x.of(0, 0) + x.of(0, 1), 0);
        due.is("undone", x.undo(), 4);
        due.is("still so", x.of(1, 1), 7);
        due.is("undone", x.undo(), 3);
        due.is("kind 3 again", x.of(1, 0), 3);
    }

    private static void gone() {
        due.about("promise 7");
        TraverseClosed x = Due.of("s1,5*1;s2,6*2;s3,7*3;k2=4,8;");
        due.is("-1", x.gone(-1), -1);
        due.is("3", x.gone(3), -1);
        due.is("refusals", refusals(x), 200000);
        due.is("the middle", x.gone(1), 2);
        due.is("the last came up", 10000 * x.of(1, 2) + 1000 * x.of(1, 3) + 100 * x.of(1, 4) + 10 * x.of(1, 0) + x.of(1, 1), 37348);
        due.is("the first stays", x.of(0, 2), 1);
        due.is("no third", x.of(2, 0), R + 1);
        due.is("the first", x.gone(0), 1);
        due.is("the last", x.gone(0), 0);
        due.is("none", x.gone(0), -1);
        due.is("changes", x.count(4), 4);
        due.is("undone", x.undo() + x.undo() + x.undo(), 6);
        due.is("the middle again", x.of(1, 3), 6);
    }

    private static void turned() {
        due.about("promise 8");
        TraverseClosed x = new TraverseClosed();
        due.is("without sides", x.turned(), 0);
        due.is("a change", x.count(4), 1);
        Due.tell(x, "s1,-5*1;s2,6*2;s-3,0*3;k2=4,8;");
        due.is("three", x.turned(), 3);
        long[][] want = {{4, 8, 3, 0, 3}, {0, 0, -2, -6, 2}, {0, 0, -1, 5, 1}};
        for (int i = 0; i < 3; i++) {
            for (int what = 0; what < 5; what++) {
                due.is("side " + i + " what " + what, x.of(i, what), want[i][what]);
            }
        }
        due.is("changes", x.count(4), 3);
        x.gone(1);
        due.is("two", x.turned(), 2);
        due.is("two swapped", x.of(0, 4), 1);
    }

    private static void of() {
        due.about("promise 9");
        TraverseClosed x = Due.of("s2,-3*4;s-1,0*1;s1,2*3;");
        int[] stretch = {10, 17, 10, 17, 10, 3};
        int[] weight = {20, 20, 40, 10, 0, 40};
        for (int kind = 0; kind <= 5; kind++) {
            x.kind(0, kind, 7);
            long[] want = {kind, 7, 2, -3, 4, weight[kind], 8L * stretch[kind], -12L * stretch[kind]};
            for (int what = 0; what < 8; what++) {
                due.is("kind " + kind + " what " + what, x.of(0, what), want[what]);
            }
        }
        x.kind(1, 3, 9);
        due.is("1 at least", x.of(1, 5), 1);
        x.kind(2, 3, 9);
        due.is("half, cut", x.of(2, 5), 4);
        due.is("nobody", x.of(-1, 9), R + 1);
        due.is("nobody", x.of(3, 0), R + 1);
        due.is("what -1", x.of(0, -1), R + 2);
        due.is("what 8", x.of(0, 8), R + 2);
        due.is("refusals", refusals(x), 220000);
    }

    private static void miss() {
        due.about("promise 10");
        TraverseClosed x = Due.of(OPEN);
        due.is("east", x.miss(0), 10);
        due.is("north", x.miss(1), 30);
        x.kind(1, 1, 1);
        due.is("taped", x.miss(1), 33);
        x.side(-9, -9, 9);
        due.is("below 0", x.miss(0), -800);
        due.is("what -1", x.miss(-1), R + 2);
        due.is("what 2", x.miss(2), R + 2);
        due.is("refusals", refusals(x), 20000);
        due.is("fixed ones, too", Due.of("s1,0*1;k0=4,9;").miss(0), 10);
    }

    private static void spread() {
        due.about("promise 11");
        TraverseClosed x = Due.of(OPEN);
        dueFraction("0 east", x.spread(0, 0, 0), x.spread(0, 0, 1), 15, 2);
        dueFraction("0 north", x.spread(0, 1, 0), x.spread(0, 1, 1), -15, 2);
        dueFraction("1 east", x.spread(1, 0, 0), x.spread(1, 0, 1), -15, 2);
        dueFraction("1 north", x.spread(1, 1, 0), x.spread(1, 1, 1), 15, 2);
        x.kind(1, 4, 0);
        dueFraction("fixed", x.spread(1, 1, 0), x.spread(1, 1, 1), 30, 1);
        dueFraction("all on one", x.spread(0, 1, 0), x.spread(0, 1, 1), -30, 1);
        dueFraction("0 by 1", x.spread(0, 0, 0), x.spread(0, 0, 1), 0, 1);
        due.is("nobody", x.spread(2, 9, 9), R + 1);
        due.is("nobody", x.spread(-1, 0, 0), R + 1);
        due.is("what", x.spread(0, 2, 0) + x.spread(0, -1, 0) - 2 * R, 4);
        due.is("part", x.spread(0, 0, 2) + x.spread(0, 0, -1) - 2 * R, 4);
        x.kind(0, 4, 0);
        due.is("what ahead of state", x.spread(0, 2, 0), R + 2);
        due.is("W is 0", x.spread(0, 0, 0), R + 3);
        due.is("refusals", refusals(x), 251000);
    }

    private static void corner() {
        due.about("promise 12");
        TraverseClosed x = Due.of(OPEN);
        dueFraction("0 east", x.corner(0, 0, 0), x.corner(0, 0, 1), 0, 1);
        dueFraction("0 north", x.corner(0, 1, 0), x.corner(0, 1, 1), 0, 1);
        dueFraction("1 east", x.corner(1, 0, 0), x.corner(1, 0, 1), 15, 2);
        dueFraction("1 north", x.corner(1, 1, 0), x.corner(1, 1, 1), -15, 2);
        TraverseClosed square = Due.of(SQUARE);
        dueFraction("square", square.corner(2, 0, 0), square.corner(2, 1, 0), 150, 150);
        dueFraction("square", square.corner(3, 0, 0), square.corner(3, 1, 0), 0, 150);
        due.is("nobody", x.corner(2, 9, 9), R + 1);
        due.is("nobody", x.corner(-1, 0, 0), R + 1);
        due.is("what", x.corner(0, 2, 0) + x.corner(0, -1, 0) - 2 * R, 4);
        due.is("part", x.corner(0, 0, 2) + x.corner(0, 0, -1) - 2 * R, 4);
        TraverseClosed fixed = Due.of(ALL_FIXED);
        due.is("nobody ahead of state", fixed.corner(3, 0, 0), R + 1);
        due.is("part ahead of state", fixed.corner(0, 0, 2), R + 2);
        due.is("W is 0", fixed.corner(0, 0, 0), R + 3);
        due.is("refusals", refusals(x) + refusals(fixed), 351000);
    }

    private static void area() {
        due.about("promise 13");
        TraverseClosed x = Due.of(SQUARE);
        dueFraction("left round", x.area(0), x.area(1), 22500, 1);
        x.turned();
        dueFraction("right round", x.area(0), x.area(1), -22500, 1);
        dueFraction("bow tie", Due.of(BOW_TIE).area(0), Due.of(BOW_TIE).area(1), 0, 1);
        dueFraction("touching", Due.of(TOUCHING).area(0), Due.of(TOUCHING).area(1), 400, 1);
        // Steps 10,0; 0,10; -10,-20: misses by 0,-10; W 5; steps spread 10,2; 0,12; -10,-14.
        TraverseClosed open = Due.of("s1,0*1;s0,1*1;s-1,-2*1;");
        dueFraction("spread", open.area(0), open.area(1), 60, 1);
        // Misses by 0,10; W 3; steps spread 10,-10/3; 0,20/3; -10,-10/3: 30 times 10/9 of them.
        TraverseClosed third = Due.of("s1,0*1;s0,1*1;s-1,0*1;");
        dueFraction("third", third.area(0), third.area(1), 100, 3);
        due.is("part", x.area(2) + x.area(-1) - 2 * R, 4);
        TraverseClosed none = new TraverseClosed();
        due.is("part ahead of state", none.area(2), R + 2);
        due.is("without sides", none.area(0), R + 3);
        due.is("W is 0", Due.of(ALL_FIXED).area(0), R + 3);
        due.is("refusals", refusals(none), 11000);
    }

    private static void turn() {
        due.about("promise 14");
        TraverseClosed x = Due.of(TOUCHING);
        int[] want = {1, 1, 1, 2, 1};
        for (int i = 0; i < 5; i++) {
            due.is("corner " + i, x.turn(i), want[i]);
        }
        TraverseClosed line = Due.of("s1,0*2;s1,0*3;s-1,0*5;");
        due.is("line", 100 * line.turn(0) + 10 * line.turn(1) + line.turn(2), 303);
        TraverseClosed slanting = Due.of("s2,-1*1;s-1,2*1;s-1,2*3;s1,-2*1;s1,-2*3;s-2,1*1;");
        int[] slants = {3, 1, 0, 3, 0, 2};
        for (int i = 0; i < 6; i++) {
            due.is("slanting " + i, slanting.turn(i), slants[i]);
        }
        due.is("one side", Due.of("s1,0*2;").turn(0), 4);
        // Of two that go the same way nothing is left; the third is fixed and comes back alone.
        TraverseClosed still = Due.of("s1,0*1;s1,0*1;s0,1*1;s0,-1*1;k2=4,0;k3=4,0;");
        due.is("stands still", 1000 * still.turn(0) + 100 * still.turn(1) + 10 * still.turn(2) + still.turn(3), 4443);
        due.is("nobody", x.turn(5) + x.turn(-1), -2);
        TraverseClosed fixed = Due.of(ALL_FIXED);
        due.is("nobody ahead of state", fixed.turn(3), -1);
        due.is("W is 0", fixed.turn(0), -3);
        due.is("refusals", refusals(fixed), 101000);
    }

    private static void cross() {
        due.about("promise 15");
        TraverseClosed x = Due.of(BOW_TIE);
        due.is("through", x.cross(0, 2), 1);
        due.is("the other way about", x.cross(2, 0), 1);
        due.is("alongside", x.cross(1, 3), 0);
        due.is("neighbours", x.cross(1, 2) + x.cross(2, 1), -6);
        due.is("the last and the first", x.cross(0, 3) + x.cross(3, 0), -6);
        due.is("twice", x.cross(1, 1), -1);
        due.is("nobody", x.cross(4, 0) + x.cross(0, 4) + x.cross(-1, 0) + x.cross(0, -1), -4);
        due.is("refusals", refusals(x), 504000);
        TraverseClosed touching = Due.of(TOUCHING);
        due.is("ends counted", touching.cross(0, 2) + touching.cross(3, 0), 2);
        due.is("apart", touching.cross(1, 3) + touching.cross(1, 4) + touching.cross(4, 2), 0);
        // 0,0 30,0 30,10 10,10 10,0 20,0 0,10: side 4 lies within side 0.
        TraverseClosed along = Due.of("s3,0*1;s0,1*1;s-2,0*1;s0,-1*1;s1,0*1;s-2,1*1;s0,-1*1;");
        due.is("one within another", along.cross(0, 4), 1);
        // 0,0 10,0 10,10 30,10 30,0 20,0 20,-10 0,-10: on one line, but apart.
        TraverseClosed apart = Due.of("s1,0*1;s0,1*1;s2,0*1;s0,-1*1;s-1,0*1;s0,-1*1;s-2,0*1;s0,1*1;");
        due.is("on one line, apart", apart.cross(0, 4), 0);
        due.is("one line, both ways", apart.cross(1, 3) + apart.cross(1, 5), 0);
        TraverseClosed fixed = Due.of("s1,0*1;".repeat(4) + "k0=4,0;k1=4,0;k2=4,0;k3=4,0;");
        due.is("nobody ahead of state", fixed.cross(0, 4), -1);
        due.is("W is 0", fixed.cross(0, 2), -3);
        TraverseClosed points = Due.of("s1,0*1;".repeat(4));
        due.is("points", points.cross(0, 2), 1);
    }

    private static void crosses() {
        due.about("promise 16");
        due.is("bow tie", Due.of(BOW_TIE).crosses(), 1);
        due.is("touching", Due.of(TOUCHING).crosses(), 2);
        due.is("square", Due.of(SQUARE).crosses(), 0);
        due.is("three are all neighbours", Due.of("s1,0*1;".repeat(3)).crosses(), 0);
        due.is("8 at one point", Due.of("s1,0*1;".repeat(8)).crosses(), 20);
        due.is("one", Due.of("s1,0*1;").crosses(), 0);
        TraverseClosed fixed = Due.of(ALL_FIXED);
        due.is("W is 0", fixed.crosses(), -3);
        due.is("refusals", refusals(fixed), 1000);
        due.is("without sides", new TraverseClosed().crosses(), -3);
    }

    private static void dueOutline(String text, int bits, int corners, int area) {
        TraverseClosed x = Due.of(text);
        due.is(text + " bits", x.outline(0), bits);
        due.is(text + " corners", x.outline(1), corners);
        dueFraction(text + " hull", x.hull(0), x.hull(1), area, 1);
    }

    private static void outline() {
        due.about("promises 17, 18");
        dueOutline(SQUARE, 15, 4, 22500);
        dueOutline(SQUARE + "r;", 15, 4, 22500);
        dueOutline(BOW_TIE, 15, 4, 900);
        dueOutline(TOUCHING, 23, 4, 800);
        dueOutline("s1,0*2;s1,0*3;s-1,0*5;", 5, 2, 0);
        dueOutline("s1,0*2;s1,0*3;s-1,0*9;s1,0*4;", 12, 2, 0);
        dueOutline("s1,0*2;", 1, 1, 0);
        dueOutline("s1,0*1;s1,0*1;s1,0*1;", 1, 1, 0);
        // 0,0 10,0 20,0 20,20 20,0 0,20: corner 4 is where 2 was, 1 is on a line.
        dueOutline("s1,0*1;s1,0*1;s0,2*1;s0,-2*1;s-2,2*1;s0,-2*1;", 45, 4, 400);
        // A dent: 0,0 40,0 10,10 0,40.
        dueOutline("s4,0*1;s-3,1*1;s-1,3*1;s0,-4*1;", 11, 3, 800);
        due.about("promise 17");
        TraverseClosed x = Due.of(SQUARE);
        due.is("what", x.outline(2) + x.outline(-1), -4);
        due.is("refusals", refusals(x), 20000);
        TraverseClosed fixed = Due.of(ALL_FIXED);
        due.is("what ahead of state", fixed.outline(2), -2);
        due.is("W is 0", fixed.outline(0) + fixed.outline(1), -6);
        due.is("refusals", refusals(fixed), 12000);
    }

    private static void hull() {
        due.about("promise 18");
        TraverseClosed x = Due.of("s1,0*1;s0,1*1;s-1,0*1;");
        dueFraction("third", x.hull(0), x.hull(1), 100, 3);
        x.turned();
        dueFraction("without its sign", x.hull(0), x.hull(1), 100, 3);
        due.is("part", x.hull(2) + x.hull(-1) - 2 * R, 4);
        due.is("refusals", refusals(x), 20000);
        TraverseClosed fixed = Due.of(ALL_FIXED);
        due.is("part ahead of state", fixed.hull(2), R + 2);
        due.is("W is 0", fixed.hull(0), R + 3);
    }

    private static void lost() {
        due.about("promise 19");
        TraverseClosed x = Due.of("s1,2*3;s-4,5*1;k0=1,1;");
        due.is("0 east", x.lost(0, 0), 40);
        due.is("0 north", x.lost(0, 1), -50);
        due.is("1 east", x.lost(1, 0), -33);
        due.is("1 north", x.lost(1, 1), -66);
        due.is("alone", Due.of("s1,1*1;").lost(0, 0), 0);
        due.is("W no matter", Due.of("s1,0*1;s2,0*1;k0=4,0;k1=4,0;").lost(0, 0), -20);
        due.is("nobody", x.lost(2, 9) + x.lost(-1, 0) - 2 * R, 2);
        due.is("what", x.lost(0, 2) + x.lost(0, -1) - 2 * R, 4);
        due.is("refusals", refusals(x), 220000);
    }

    private static void lengths() {
        due.about("promise 20");
        TraverseClosed x = Due.of("s2,0*1;s0,3*1;s-5,-7*1;s0,-1*3;");
        dueFraction("x", x.lengths(0, 1, 0, 0), x.lengths(0, 1, 0, 1), 5, 2);
        dueFraction("y", x.lengths(0, 1, 1, 0), x.lengths(0, 1, 1, 1), 10, 3);
        dueFraction("x of the other", x.lengths(1, 0, 0, 0), x.lengths(1, 0, 0, 1), 10, 3);
        dueFraction("y of the other", x.lengths(1, 0, 1, 0), x.lengths(1, 0, 1, 1), 5, 2);
        // Without sides 0 and 3 there is left -50,-40: 20 times x is 50, -10 times y is 40.
        dueFraction("below 0", x.lengths(0, 3, 1, 0), x.lengths(0, 3, 1, 1), -4, 1);
        x.kind(0, 5, 6);
        dueFraction("by stretch", x.lengths(0, 1, 0, 0), x.lengths(0, 1, 0, 1), 25, 4);
        TraverseClosed two = Due.of("s1,0*4;s0,1*4;");
        dueFraction("0 by 1", two.lengths(0, 1, 0, 0), two.lengths(0, 1, 0, 1), 0, 1);
        due.is("just the other way", x.lengths(1, 3, 0, 0), R + 3);
        due.is("the same way", Due.of("s1,2*1;s2,4*3;s1,1*1;").lengths(0, 1, 0, 0), R + 3);
        due.is("what ahead of none", x.lengths(1, 3, 2, 0), R + 2);
        due.is("what", x.lengths(0, 1, -1, 0), R + 2);
        due.is("part", x.lengths(0, 1, 0, 2) + x.lengths(0, 1, 0, -1) - 2 * R, 4);
        due.is("twice", x.lengths(1, 1, 9, 9), R + 1);
        due.is("nobody", x.lengths(4, 1, 0, 0) + x.lengths(1, 4, 0, 0) - 2 * R, 2);
        due.is("nobody", x.lengths(-1, 1, 0, 0) + x.lengths(1, -1, 0, 0) - 2 * R, 2);
        due.is("refusals", refusals(x), 541000);
    }

    private static void worst() {
        due.about("promise 21");
        TraverseClosed x = Due.of(SQUARE);
        due.is("none of a square", x.worst(0), -9);
        due.is("none of a square", x.worst(1), -9);
        x.side(1, 1, 1);
        x.side(1, 1, 1);
        due.is("the first of two", x.worst(0), 4);
        due.is("its miss", x.worst(1), 20);
        due.is("alone", Due.of("s1,2*3;").worst(0), 0);
        due.is("alone, its miss", Due.of("s1,2*3;").worst(1), 0);
        due.is("without sides", new TraverseClosed().worst(0), -9);
        // Misses by 30; without side 0 by -10; without side 1 by 40; without side 2 by 30.
        due.is("signs", Due.of("s4,0*1;s-1,0*1;").worst(0), 0);
        due.is("signs", Due.of("s4,0*1;s-1,0*1;").worst(1), 10);
        due.is("not if only as it is", Due.of("s2,0*1;s-1,0*1;").worst(0), -9);
        due.is("both matter", Due.of("s2,0*1;s0,3*1;").worst(0), 1);
        due.is("what", x.worst(2) + x.worst(-1), -4);
        due.is("refusals", refusals(x), 20000);
    }

    private static void order() {
        due.about("promise 22");
        TraverseClosed x = Due.of("s1,0*1;s1,1*2;s0,2*2;s-4,-4*1;s9,9*9;k4=4,0;");
        int[] want = {3, 1, 2, 0, 4};
        for (int i = 0; i < 5; i++) {
            due.is("the " + i + "-th", x.order(i), want[i]);
        }
        due.is("not so many", x.order(5), -1);
        due.is("below", x.order(-1), -1);
        due.is("without sides", new TraverseClosed().order(0), -1);
        due.is("refusals", refusals(x), 200000);
    }

    private static void likely() {
        due.about("promise 23");
        TraverseClosed none = new TraverseClosed();
        dueFraction("without sides", none.likely(2, 0, 0), none.likely(2, 0, 1), 1, 1);
        TraverseClosed x = Due.of("s1,0*1;s-1,0*1;s0,2*1;");
        // 0 of all: none left, or both of the first two; and the third lost.
        dueFraction("0 of 2", x.likely(2, 0, 0), x.likely(2, 0, 1), 1, 4);
        // 1/27 lost all, 4/27 with both of the first two.
        dueFraction("0 of 3", x.likely(3, 0, 0), x.likely(3, 0, 1), 5, 27);
        dueFraction("9 of 3", x.likely(3, 9, 0), x.likely(3, 9, 1), 5, 27);
        dueFraction("10 of 3", x.likely(3, 10, 0), x.likely(3, 10, 1), 1, 3);
        dueFraction("29 of 3", x.likely(3, 29, 0), x.likely(3, 29, 1), 19, 27);
        dueFraction("30 of 3", x.likely(3, 30, 0), x.likely(3, 30, 1), 1, 1);
        TraverseClosed far = Due.of("s9,9*9;".repeat(8));
        dueFraction("all lost, of 20", far.likely(20, 0, 0), far.likely(20, 0, 1), 1, 25600000000L);
        // 6 of 1620 each make 9720: all but the cases of 7 and 8 left.
        dueFraction("6 left", far.likely(20, 9999, 0), far.likely(20, 9999, 1),
            25600000000L - 16983563041L - 8L * 893871739L, 25600000000L);
        due.is("t below", x.likely(1, 10000, 2), R + 4);
        due.is("v below", x.likely(21, -1, 2), R + 4);
        due.is("t above", x.likely(21, 0, 2), R + 6);
        due.is("v above", x.likely(2, 10000, 2), R + 6);
        due.is("part", x.likely(2, 0, 2) + x.likely(2, 0, -1) - 2 * R, 4);
        due.is("refusals", refusals(x), 20202);
    }

    private static void parcel() {
        due.about("promise 24");
        TraverseClosed x = Due.of(TOUCHING);
        // From corner 0: triangles 0,1,2: 400; 0,2,3: -200; 0,3,4: 200.
        long[] want = {0, 400, 200, 400};
        for (int k = 0; k <= 3; k++) {
            dueFraction("from 0 by " + k, x.parcel(0, k, 0), x.parcel(0, k, 1), want[k], 1);
        }
        // From corner 3 (20,0): 3,4,0: 200; 3,0,1: 0; 3,1,2: 200.
        long[] round = {0, 200, 200, 400};
        for (int k = 0; k <= 3; k++) {
            dueFraction("from 3 by " + k, x.parcel(3, k, 0), x.parcel(3, k, 1), round[k], 1);
        }
        due.is("nobody", x.parcel(5, -1, 2) + x.parcel(-1, 0, 0) - 2 * R, 2);
        due.is("k below", x.parcel(0, -1, 2), R + 4);
        due.is("k above", x.parcel(0, 4, 2), R + 6);
        due.is("k far above", x.parcel(0, MAX, 0), R + 6);
        due.is("part", x.parcel(0, 0, 2) + x.parcel(0, 0, -1) - 2 * R, 4);
        due.is("refusals", refusals(x), 220102);
        due.is("one side", Due.of("s1,0*1;").parcel(0, 0, 0), R + 6);
        due.is("two sides", Due.of(OPEN).parcel(0, 0, 1), 1);
        due.is("two sides", Due.of(OPEN).parcel(0, 1, 0), R + 6);
        TraverseClosed fixed = Due.of(ALL_FIXED);
        due.is("above ahead of state", fixed.parcel(0, 2, 0), R + 6);
        due.is("part ahead of state", fixed.parcel(0, 1, 2), R + 2);
        due.is("W is 0", fixed.parcel(0, 1, 0), R + 3);
    }

    private static void dueCut(TraverseClosed x, int c, int v, int triangle, int above, int below) {
        due.is("cut " + c + " " + v + " triangle", x.cut(c, v, 0), triangle);
        due.is("cut " + c + " " + v + " above", x.cut(c, v, 1), above);
        due.is("cut " + c + " " + v + " below", x.cut(c, v, 2), below);
    }

    private static void cut() {
        due.about("promise 25");
        TraverseClosed x = Due.of(TOUCHING);
        // Parcels in squares of 10 tenths: from 0: 4, 2, 4; from 3: 2, 2, 4; from 2: 0, 2, 4.
        dueCut(x, 0, 1, 1, 1, 4);
        dueCut(x, 0, 4, 1, 1, 1);
        dueCut(x, 0, 5, -9, -9, -9);
        dueCut(x, 0, -1, -9, -9, -9);
        dueCut(x, 0, 0, 1, 0, 1);
        dueCut(x, 3, 2, 1, 1, 1);
        dueCut(x, 3, 3, 3, 1, 2);
        dueCut(x, 3, 9999, -9, -9, -9);
        x.turned();
        // From 0 now: 0,0 0,20 20,0 40,20 40,0: -2, 0 more by 2, ..
        dueCut(x, 0, -1, 1, 1, 2);
        dueCut(x, 0, -9999, -9, -9, -9);
        TraverseClosed square = Due.of(SQUARE + "r;");
        dueCut(square, 0, -100, 1, 8, 9);
        dueCut(square, 1, -225, 2, 1, 1);
        dueCut(square, 1, -113, 2, 1, 225);
        dueCut(square, 1, 1, -9, -9, -9);
        dueCut(Due.of(OPEN), 0, 0, -9, -9, -9);
        dueCut(Due.of(OPEN), 1, 1, -9, -9, -9);
        dueCut(Due.of("s1,0*1;"), 0, 0, -9, -9, -9);
        dueCut(Due.of("s1,0*1;".repeat(3)), 0, 0, 1, 0, 1);
        dueCut(Due.of("s1,0*1;".repeat(3)), 0, 1, -9, -9, -9);
        due.is("nobody", x.cut(5, -10000, 3) + x.cut(-1, 0, 0) - 2 * R, 2);
        due.is("v below", x.cut(0, -10000, 3), R + 4);
        due.is("v above", x.cut(0, 10000, 3), R + 6);
        due.is("what", x.cut(0, 0, 3) + x.cut(0, 0, -1) - 2 * R, 4);
        due.is("refusals", refusals(x), 220101);
        TraverseClosed fixed = Due.of(ALL_FIXED);
        due.is("what ahead of state", fixed.cut(0, 0, 3), R + 2);
        due.is("W is 0", fixed.cut(0, 0, 0), R + 3);
    }

    private static void whatIs() {
        due.about("promise 26");
        TraverseClosed x = Due.of("s1,-2*7;k0=5,4;");
        due.is("of none, kinds", x.whatIs(0, 0), 63);
        due.is("of none, figures", x.whatIs(0, 1), 1023);
        x.row(6);
        due.is("6, kinds", x.whatIs(0, 0), 36);
        due.is("6, figures", x.whatIs(0, 1), 1023);
        x.row(11);
        due.is("6 11", x.whatIs(0, 0) + x.whatIs(0, 1), 0);
        x.clear();
        x.row(3);
        x.row(6);
        due.is("3 6, kinds", x.whatIs(0, 0), 3);
        due.is("3 6, figures", x.whatIs(0, 1), 0);
        x.clear();
        int[] chained = {1, 3, 4, 6, 7, 9, 10, 12, 13};
        for (int v : chained) {
            x.row(v);
        }
        due.is("chained", x.whatIs(0, 0), 8);
        x.clear();
        x.row(0);
        due.is("fixed", x.whatIs(0, 0), 16);
        due.is("it stays", x.count(3), 1);
        x.clear();
        x.row(1);
        x.side(0, 1, 9);
        due.is("1 at least", x.whatIs(1, 0), 11);
        due.is("nobody", x.whatIs(2, 9) + x.whatIs(-1, 0), -2);
        due.is("what", x.whatIs(0, 2) + x.whatIs(0, -1), -4);
        due.is("refusals", refusals(x), 220000);
    }

    private static void row() {
        due.about("promise 27");
        TraverseClosed x = new TraverseClosed();
        due.is("-1", x.row(-1), -4);
        due.is("100", x.row(100), -6);
        due.is("0", x.row(0), 1);
        due.is("99", x.row(99), 2);
        for (int i = 3; i <= 9; i++) {
            due.is("the next", x.row(50), i);
        }
        due.is("a tenth", x.row(1), -6);
        due.is("a tenth below", x.row(-1), -4);
        due.is("in the row", x.count(3), 9);
        due.is("refusals", refusals(x), 202);
    }

    private static void clear() {
        due.about("promise 28");
        TraverseClosed x = new TraverseClosed();
        due.is("none", x.clear(), 0);
        x.row(1);
        x.row(2);
        due.is("two", x.clear(), 2);
        due.is("none then", x.count(3), 0);
        due.is("none again", x.clear(), 0);
        due.is("from 1 on", x.row(3), 1);
    }

    private static void lots() {
        due.about("promise 29");
        TraverseClosed x = Due.of("s1,0*9;");
        // From z 0 the draws make times 6, 4, 1, 6, 2, 6, the third and fourth with the sign's bit.
        due.is("one", x.lots(1, 0, 1), 60);
        due.is("two", x.lots(2, 0, 1), 100);
        due.is("six", x.lots(6, 0, 1), 250);
        due.is("all are good", x.lots(6, 0, 0), 6);
        due.is("as it was", x.of(0, 4), 9);
        TraverseClosed two = Due.of("s1,0*9;s0,-1*9;");
        due.is("by numbers", two.lots(2, 0, 1), 60 + 40 + 10 + 60);
        TraverseClosed back = Due.of("s1,0*9;s-1,0*9;");
        due.is("without signs", back.lots(2, 0, 1), 20 + 50);
        x.kind(0, 4, 0);
        due.is("W is 0", x.lots(6, 0, 0), 0);
        due.is("W no matter", x.lots(6, 0, 1), 250);
        due.is("points cross", Due.of("s1,0*1;s1,0*1;s1,0*1;s1,0*1;").lots(20, 7, 0), 0);
        TraverseClosed none = new TraverseClosed();
        due.is("without sides", none.lots(20, 5, 0) + none.lots(20, 5, 1), 0);
        due.is("below", none.lots(0, 0, 2), -4);
        due.is("above", none.lots(21, 0, 2), -6);
        due.is("what", none.lots(1, 0, 2) + none.lots(1, 0, -1), -4);
        due.is("refusals", refusals(none), 20101);
    }

    private static void list() {
        due.about("promise 30");
        TraverseClosed x = new TraverseClosed();
        due.is("nobody", x.list(3, 2, 21) + x.list(-1, 0, 0), -2);
        due.is("sort", x.list(0, 2, 21) + x.list(0, -1, -1), -4);
        due.is("too long", x.list(0, 0, 21), -6);
        due.is("below 0", x.list(0, 0, -1), -14);
        due.is("refusals", refusals(x), 220001);
        due.is("still missing", x.look(0, 0), R + 11);
        for (int i = 0; i < 3; i++) {
            due.is("20", x.list(i, i % 2, 20), 1);
            due.is("last", x.look(i, 19), 0);
        }
        x.put(0, 0, 7);
        x.put(0, 3, 7);
        due.is("too long", x.list(0, 0, 21), -6);
        due.is("as it was", x.look(0, 3), 7);
        due.is("again", x.list(0, 0, 4), 1);
        due.is("all 0", x.look(0, 3) + x.look(0, 0), 0);
        due.is("shorter", x.look(0, 4), R + 13);
        due.is("of none", x.list(0, 1, 0), 1);
        due.is("no place", x.look(0, 0), R + 13);
    }

    private static void putAndLook() {
        due.about("promises 31, 32");
        TraverseClosed x = new TraverseClosed();
        due.is("missing", x.put(0, 99, 1), -11);
        due.is("missing", x.look(2, 99), R + 11);
        due.is("nobody", x.put(3, 0, 1) + x.put(-1, 0, 1), -2);
        due.is("nobody", x.look(3, 0) + x.look(-1, 0) - 2 * R, 2);
        due.is("refusals", refusals(x), 400000);
        x.list(0, 0, 2);
        x.list(1, 1, 2);
        due.is("no place", x.put(0, 2, 1) + x.put(0, -1, 1), -26);
        due.is("no place", x.look(0, 2) + x.look(0, -1) - 2 * R, 26);
        due.is("long", x.put(0, 1, Long.MIN_VALUE), 1);
        due.is("long", x.look(0, 1), Long.MIN_VALUE);
        due.is("ints' lowest bits", x.put(1, 0, 0x1_8000_0001L), 1);
        due.is("ints' lowest bits", x.look(1, 0), -2147483647);
        x.put(1, 1, 1L << 40);
        due.is("nothing below", x.look(1, 1), 0);
        due.is("not counted", refusals(x), 400000);
    }

    private static void copy() {
        due.about("promise 33");
        TraverseClosed x = new TraverseClosed();
        due.is("nobody", x.copy(3, 0, 0, 0, 0) + x.copy(0, 0, 3, 0, 0), -2);
        due.is("nobody", x.copy(-1, 0, 0, 0, 0) + x.copy(0, 0, -1, 0, 0), -2);
        due.is("refusals", refusals(x), 400000);
        x.list(0, 0, 5);
        due.is("missing", x.copy(0, 9, 1, 9, -1) + x.copy(1, 0, 0, 0, 1), -22);
        x.list(1, 1, 5);
        due.is("unlike", x.copy(0, 9, 1, 0, 1) + x.copy(1, 0, 0, 9, -1), -24);
        x.list(2, 0, 3);
        for (int i = 0; i < 5; i++) {
            x.put(0, i, i + 1);
        }
        due.is("to another", x.copy(0, 2, 2, 0, 3), 3);
        due.is("there", 100 * x.look(2, 0) + 10 * x.look(2, 1) + x.look(2, 2), 345);
        due.is("its own, upward", x.copy(0, 0, 0, 1, 4), 4);
        due.is("as they were", x.look(0, 0) * 10000 + x.look(0, 1) * 1000 + x.look(0, 2) * 100 + x.look(0, 3) * 10 + x.look(0, 4), 11234);
        due.is("its own, downward", x.copy(0, 2, 0, 0, 3), 3);
        due.is("as they were", x.look(0, 0) * 10000 + x.look(0, 1) * 1000 + x.look(0, 2) * 100 + x.look(0, 3) * 10 + x.look(0, 4), 23434);
        due.is("from below", x.copy(0, -1, 2, 0, 1), -13);
        due.is("to below", x.copy(0, 0, 2, -1, 1), -13);
        due.is("n below", x.copy(0, 1, 2, 1, -1), -13);
        due.is("from beyond", x.copy(0, 3, 2, 0, 3), -13);
        due.is("to beyond", x.copy(0, 0, 2, 1, 3), -13);
        due.is("far beyond", x.copy(0, MAX, 2, 0, 1) + x.copy(0, 1, 2, MAX, MAX) + x.copy(0, 1, 2, 1, MIN), -39);
        due.is("none at the end", x.copy(0, 5, 2, 3, 0), 0);
        due.is("none beyond the end", x.copy(0, 6, 2, 0, 0), -13);
        due.is("nothing changed", 100 * x.look(2, 0) + 10 * x.look(2, 1) + x.look(2, 2), 345);
        due.is("not counted", refusals(x), 400000);
    }

    private static void lays() {
        due.about("promise 34");
        TraverseClosed x = Due.of(OPEN);
        due.is("missing", x.lays(0, 0), -11);
        due.is("nobody", x.lays(3, 0) + x.lays(-1, 0), -2);
        x.list(0, 0, 6);
        due.is("from 1 on", x.lays(0, 1), 2);
        long[] want = {0, 0, 0, 30, -30, 0};
        for (int i = 0; i < 6; i++) {
            due.is("place " + i, x.look(0, i), want[i]);
        }
        TraverseClosed square = Due.of(SQUARE);
        square.list(0, 0, 9);
        square.put(0, 8, 7);
        due.is("square", square.lays(0, 0), 4);
        // W is 60.
        long[] corners = {0, 0, 9000, 0, 9000, 9000, 0, 9000, 7};
        for (int i = 0; i < 9; i++) {
            due.is("square, place " + i, square.look(0, i), corners[i]);
        }
        x.list(1, 1, 4);
        due.is("of ints", x.lays(1, 0), 2);
        due.is("of ints", x.look(1, 3), -30);
        due.is("the last has none", x.lays(1, 1), -13);
        due.is("the others are laid", x.look(1, 3), 30);
        due.is("as far as it was", x.look(1, 2), 0);
        due.is("below", x.lays(1, -1) + x.lays(1, MIN), -26);
        due.is("nothing is laid", x.look(1, 3), 30);
        due.is("beyond", x.lays(1, 4) + x.lays(1, MAX), -26);
        x.list(2, 0, 0);
        due.is("of none", x.lays(2, 0), -13);
        due.is("refusals", refusals(x), 200000);
        TraverseClosed fixed = Due.of(ALL_FIXED);
        due.is("nobody ahead of state", fixed.lays(3, 0), -1);
        due.is("state ahead of missing", fixed.lays(0, 0), -3);
        due.is("refusals", refusals(fixed), 101000);
    }

    private static void judge() {
        due.about("promise 35");
        TraverseClosed x = Due.of(OPEN);
        due.is("missing", x.judge(0), -11);
        due.is("nobody", x.judge(3) + x.judge(-1), -2);
        x.list(0, 0, 5);
        x.lays(0, 0);
        x.put(0, 4, 77);
        due.is("as it is, and more", x.judge(0), -9);
        x.put(0, 3, -29);
        due.is("north of 1", x.judge(0), 1);
        x.put(0, 1, 1);
        due.is("north of 0", x.judge(0), 0);
        int[] want = {100, 100, 101, 101, -9};
        for (int n = 0; n <= 4; n++) {
            x.list(1, 1, n);
            x.lays(1, 0);
            due.is("of " + n, x.judge(1), want[n]);
        }
        x.list(1, 0, 3);
        x.put(1, 2, 29);
        due.is("east of 1, and it ends", x.judge(1), 1);
        x.put(1, 2, 30L + (1L << 32));
        due.is("longs whole", x.judge(1), 1);
        due.is("refusals", refusals(x), 200000);
        TraverseClosed square = Due.of(SQUARE);
        square.list(0, 0, 8);
        square.lays(0, 0);
        due.is("square", square.judge(0), -9);
        for (int i = 7; i >= 0; i--) {
            square.put(0, i, square.look(0, i) + 1);
            due.is("square, otherwise from " + i + " on", square.judge(0), i / 2);
        }
        for (int n = 0; n < 8; n++) {
            square.list(0, 0, n);
            square.lays(0, 0);
            due.is("square of " + n, square.judge(0), 100 + n / 2);
        }
        TraverseClosed fixed = Due.of(ALL_FIXED);
        due.is("nobody ahead of state", fixed.judge(3), -1);
        due.is("state ahead of missing", fixed.judge(0), -3);
    }

    private static void undo() {
        due.about("promise 36");
        TraverseClosed x = new TraverseClosed();
        due.is("none", x.undo(), -3);
        for (int i = 1; i <= 8; i++) {
            x.side(1, 1, i);
        }
        x.gone(0);
        x.kind(0, 5, 1);
        x.turned();
        due.is("8 at most", x.count(4), 8);
        x.gone(9);
        Due.tell(x, "d9;");
        due.is("refused ones are none", x.count(4), 8);
        due.is("turn", x.undo(), 7);
        due.is("as it was", x.of(0, 4), 2);
        due.is("kind", x.undo(), 6);
        due.is("as it was", x.of(0, 0), 0);
        due.is("gone", x.undo(), 5);
        due.is("as it was", x.count(0), 8);
        due.is("a change more", x.turned(), 8);
        due.is("6 then", x.count(4), 6);
        due.is("undone", x.undo(), 5);
        for (int i = 4; i >= 0; i--) {
            due.is("side", x.undo(), i);
        }
        due.is("the first three stay", x.count(0), 3);
        due.is("none left", x.undo(), -3);
        due.is("refusals", refusals(x), 102000);
    }

    private static void image() {
        due.about("promise 37");
        TraverseClosed x = new TraverseClosed();
        due.is("of none", x.image(), 0);
        x.side(1, 2, 3);
        due.is("on to none", x.on(), 0);
        Due.tell(x, "s1,2*3;s-4,5*6;k1=3,7;");
        due.is("two", x.image(), 2);
        due.is("no change", x.count(4), 1);
        due.is("undo goes on", x.undo(), 0);
        due.is("none", x.count(0), 0);
        due.is("on to two", x.on(), 2);
        long[] want = {3, 7, -4, 5, 6};
        for (int what = 0; what < 5; what++) {
            due.is("what " + what, x.of(1, what), want[what]);
        }
    }

    private static void on() {
        due.about("promise 38");
        TraverseClosed x = Due.of(SQUARE);
        due.is("none", x.on(), -3);
        due.is("refusals", refusals(x), 1000);
        x.image();
        x.kind(2, 1, 1);
        x.gone(0);
        x.row(5);
        x.letter('r');
        x.list(0, 0, 1);
        due.is("four", x.on(), 4);
        due.is("as then", x.of(2, 0) + x.of(2, 1), 0);
        due.is("no changes", x.count(4), 0);
        due.is("nothing to undo", x.undo(), -3);
        due.is("the rest stays", x.count(2) + x.count(3) + x.put(0, 0, 1), 3);
        due.is("refusals stay", refusals(x), 2000);
        x.gone(0);
        due.is("a change", x.count(4), 1);
        due.is("again", x.on(), 4);
        x.turned();
        due.is("undone as it came on", 10 * x.undo() + x.of(0, 2), 3);
    }

    private static void count() {
        due.about("promise 39");
        TraverseClosed x = Due.of("s1,-2*3;s9,9*9;k1=2,0;");
        due.is("sides", x.count(0), 2);
        due.is("W", x.count(1), 333);
        x.letter('x');
        x.letter('y');
        due.is("letters", x.count(2), 2);
        x.row(5);
        due.is("in the row", x.count(3), 1);
        due.is("changes", x.count(4), 1);
        x.gone(2);
        x.of(5, 0);
        x.miss(2);
        x.side(0, 0, 1);
        x.row(-1);
        x.row(-1);
        x.row(100);
        x.list(0, 0, -1);
        x.put(0, 0, 0);
        x.look(0, 0);
        due.is("refusals", refusals(x), 211201);
        int[] others = {-1, 5, 6, 9, 10, 17, MIN, MAX};
        for (int what : others) {
            due.is("another what", x.count(what), -9);
        }
        due.is("not counted", refusals(x), 211201);
    }
}
