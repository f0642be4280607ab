/** Edges of "Terms" about STATEMENTS told in letters, and their FAULTS. */
final class EdgesOfLetters {
    private static final String ONE = EdgesOfTerms.ONE;
    private static final String EIGHT = EdgesOfTerms.EIGHT;
    private static final String[] FORMS = {"s-1,-2*3;", "s1,2*3;", "i0:-1,-2*3;", "i0:1,2*3;", "k0=1,2;", "d0;", "r;"};

    private final Edge edge;

    EdgesOfLetters(Edge edge) {
        this.edge = edge;
    }

    void check() {
        howManyLetters();
        semicolons();
        digits();
        signs();
        sidesMore();
        sidesAhead();
        otherKinds();
        gone();
        turned();
        atLeastOne();
        kindOne();
        kindOneEverywhere();
        kindTwo();
        kindTwoBehindOthers();
        nothingOfIt();
    }

    private void howManyLetters() {
        edge.of(0, "Told in letters (120 at most)");
        edge.tells("", "r;".repeat(60), 60);
        edge.faults("", "r;".repeat(59) + "rr", -1119);
        TraverseClosed x = new TraverseClosed();
        for (int i = 1; i <= 120; i++) {
            edge.is(x.letter(i % 2 == 1 ? 'r' : ';'), i);
        }
        edge.is(x.letter('x'), -6);
        edge.is(x.count(2), 120);
        edge.is(x.tells(), 60);
    }

    private void semicolons() {
        edge.of(0, "STATEMENTS, each with \";\" behind");
        for (String form : FORMS) {
            int end = form.length() - 1;
            edge.tells(ONE, form, 1);
            edge.faults(ONE, form.substring(0, end), -1000 - end);
            edge.faults(ONE, form + ";", -1001 - end);
            edge.faults(ONE, form.substring(0, end) + ":", -1000 - end);
            edge.faults(ONE, form.substring(0, end) + form, -1000 - end);
        }
    }

    private void digits() {
        edge.of(0, "numbers of one digit each");
        edge.tells(ONE, "s0,9*9;", 1);
        edge.faults(ONE, "s10,9*9;", -1002);
        edge.faults(ONE, "s0,99*9;", -1004);
        edge.faults(ONE, "s0,9*99;", -1006);
        edge.faults(ONE, "i00:1,1*1;", -1002);
        edge.faults(ONE, "k00=1,1;", -1002);
        edge.faults(ONE, "k0=11,1;", -1004);
        edge.faults(ONE, "k0=1,11;", -1006);
        edge.faults(ONE, "d00;", -1002);
        edge.faults(ONE, "s,1*1;", -1001);
        edge.faults(ONE, "s1,*1;", -1003);
        edge.faults(ONE, "s1,1*;", -1005);
        edge.faults(ONE, "i:1,1*1;", -1001);
        edge.faults(ONE, "k=1,1;", -1001);
        edge.faults(ONE, "k0=,1;", -1003);
        edge.faults(ONE, "k0=1,;", -1005);
        edge.faults(ONE, "d;", -1001);
        // The letters next to "0" and "9".
        edge.faults(ONE, "d/;", -1001);
        edge.faults(ONE, "d:;", -1001);
        edge.faults(ONE, "s-/,1*1;", -1002);
        edge.faults(ONE, "s1,:*1;", -1003);
    }

    private void signs() {
        edge.of(0, "(EAST, NORTH perhaps with \"-\" ahead)");
        edge.tells(ONE, "s-9,-9*1;i0:-9,-9*1;", 2);
        edge.tells(ONE, "s-0,1*1;s1,-0*1;", 2);
        edge.faults(ONE, "s--1,1*1;", -1002);
        edge.faults(ONE, "s1,--1*1;", -1004);
        edge.faults(ONE, "s1,1*-1;", -1005);
        edge.faults(ONE, "s1-,1*1;", -1002);
        edge.faults(ONE, "s+1,1*1;", -1001);
        edge.faults(ONE, "s-,1*1;", -1002);
        edge.faults(ONE, "i-0:1,1*1;", -1001);
        edge.faults(ONE, "i0:1,1*-1;", -1007);
        edge.faults(ONE, "k-0=1,1;", -1001);
        edge.faults(ONE, "k0=-1,1;", -1003);
        edge.faults(ONE, "k0=1,-1;", -1005);
        edge.faults(ONE, "d-0;", -1001);
    }

    private void dueSide(TraverseClosed x, int side, long... want) {
        for (int what = 0; what < want.length; what++) {
            edge.is(x.of(side, what), want[what]);
        }
    }

    private void sidesMore() {
        edge.of(0, "a SIDE more, of KIND 0, FIGURE 0, behind the last");
        TraverseClosed x = new TraverseClosed();
        edge.is(Due.tell(x, "s-9,9*9;"), 1);
        dueSide(x, 0, 0, 0, -9, 9, 9);
        edge.is(Due.tell(x, "k0=3,7;s0,-1*1;"), 2);
        dueSide(x, 1, 0, 0, 0, -1, 1);
        dueSide(x, 0, 3, 7, -9, 9, 9);
        edge.faults(EIGHT, ONE, -2000);
    }

    private void sidesAhead() {
        edge.of(0, "\"i\" a SIDE \":\" and as behind \"s\": a SIDE more, ahead of that one");
        TraverseClosed x = Edge.silent("s1,1*1;s2,2*2;k0=1,5;k1=2,6;");
        edge.is(Due.tell(x, "i1:-3,4*5;i0:6,-7*8;"), 2);
        dueSide(x, 0, 0, 0, 6, -7, 8);
        dueSide(x, 1, 1, 5, 1, 1, 1);
        dueSide(x, 2, 0, 0, -3, 4, 5);
        dueSide(x, 3, 2, 6, 2, 2, 2);
        edge.faults("s1,1*1;s2,2*2;", "i2:1,1*1;", -2000);
        edge.faults("", "i0:1,1*1;", -2000);
        edge.faults(EIGHT, "i7:1,1*1;", -2000);
        edge.faults(EIGHT, "i8:1,1*1;", -2000);
    }

    private void otherKinds() {
        edge.of(0, "\"k\" a SIDE \"=\" KIND \",\" FIGURE");
        TraverseClosed x = Edge.silent("s1,1*1;s2,2*2;");
        edge.is(Due.tell(x, "k1=5,9;"), 1);
        dueSide(x, 0, 0, 0, 1, 1, 1);
        dueSide(x, 1, 5, 9, 2, 2, 2);
        edge.faults("s1,1*1;s2,2*2;", "k2=5,9;", -2000);
        edge.faults("s1,1*1;s2,2*2;", "k1=6,9;", -2000);
        edge.faults("", "k0=0,0;", -2000);
    }

    private void gone() {
        edge.of(0, "\"d\" a SIDE: it is gone");
        TraverseClosed x = Edge.silent("s1,1*1;s2,2*2;s3,3*3;k2=3,4;");
        edge.is(Due.tell(x, "d1;"), 1);
        dueSide(x, 1, 3, 4, 3, 3, 3);
        edge.is(x.count(0), 2);
        edge.tells(EIGHT, "d7;d6;d5;d4;d3;d2;d1;d0;", 8);
        edge.faults(EIGHT, "d8;", -2000);
        edge.faults(ONE, "d1;", -2000);
        edge.faults("", "d0;", -2000);
    }

    private void turned() {
        edge.of(0, "\"r\": SIDES are turned: the last first, each EAST, NORTH the other way.");
        TraverseClosed x = Edge.silent("s1,-5*1;s2,6*2;s-3,0*3;k2=4,8;");
        edge.is(Due.tell(x, "r;"), 1);
        dueSide(x, 0, 4, 8, 3, 0, 3);
        dueSide(x, 1, 0, 0, -2, -6, 2);
        dueSide(x, 2, 0, 0, -1, 5, 1);
        edge.tells("", "r;", 1);
        edge.tells(EIGHT, "r;r;", 2);
        edge.faults(ONE, "r0;", -1001);
    }

    private void atLeastOne() {
        edge.of(0, "At least one.");
        edge.tells("", "r;", 1);
        edge.faults("", "", -1000);
        edge.faults("", ";", -1000);
    }

    private void kindOne() {
        edge.of(0, "kind 1 the place of the first letter with which no STATEMENTS can go on"
            + " (the end, if something lacks): -1000 less the place");
        edge.faults("", "x", -1000);
        edge.faults("", "s", -1001);
        edge.faults("", "r;x", -1002);
        edge.faults("", "r;r", -1003);
        edge.faults("", "r;".repeat(59) + "r", -1119);
        edge.faults("", "r;".repeat(59) + "rr", -1119);
        edge.faults("", "r;".repeat(59) + "s1", -1120);
        edge.faults("", "r;".repeat(59) + "r:", -1119);
        edge.faults("", "r;".repeat(59) + "xx", -1118);
        // Letters 0 and 255, and those beside the five that begin a STATEMENT.
        for (char letter : new char[] {0, 255, 'S', 'c', 'e', 'h', 'j', 'l', 'q', 't', '0', '-', ' '}) {
            edge.faults("", "r;" + letter, -1002);
        }
    }

    private void kindOneEverywhere() {
        edge.of(0, "the first letter with which no STATEMENTS can go on (the end, if something lacks)");
        for (String form : FORMS) {
            for (int i = 0; i < form.length(); i++) {
                edge.faults(ONE, form.substring(0, i), -1000 - i);
                edge.faults(ONE, form.substring(0, i) + "x" + form.substring(i), -1000 - i);
                edge.faults(ONE, form.substring(0, i) + (char) 255, -1000 - i);
                edge.faults(ONE, "r;" + form.substring(0, i) + "#", -1002 - i);
            }
        }
    }

    private void kindTwo() {
        edge.of(0, "is not as it must be (as side(), kind() .. refuse it): -2000 less the place.");
        edge.tells(ONE, "s1,0*1;", 1);
        edge.faults(ONE, "s0,0*1;", -2000);
        edge.faults(ONE, "s-0,-0*1;", -2000);
        edge.tells(ONE, "s1,1*9;", 1);
        edge.faults(ONE, "s1,1*0;", -2000);
        edge.tells(ONE, "i0:0,1*1;", 1);
        edge.tells(ONE, "i0:1,0*1;", 1);
        edge.faults(ONE, "i0:0,0*1;", -2000);
        edge.faults(ONE, "i0:1,1*0;", -2000);
        edge.faults(ONE, "i1:1,1*1;", -2000);
        edge.tells(ONE, "k0=5,9;", 1);
        edge.faults(ONE, "k0=6,9;", -2000);
        edge.faults(ONE, "k1=5,9;", -2000);
        edge.faults(ONE, "d1;", -2000);
        edge.faults(ONE, "d9;", -2000);
        // The last place at which a STATEMENT can be that is not as it must be.
        edge.faults(ONE, "k0=1,1;" + "r;".repeat(55) + "d9;", -2117);
        edge.faults(ONE, "d9;" + "r;".repeat(58), -2000);
        // One letter with which nothing can go on goes ahead of it, wherever it is.
        edge.faults(ONE, "d9;x", -1003);
        edge.faults(ONE, "d9;d", -1004);
        edge.faults(ONE, "d9;" + "r;".repeat(58) + "r", -1120);
        edge.faults(ONE, "d9;k0=6,9;s0,0*0;;", -1017);
    }

    private void kindTwoBehindOthers() {
        edge.of(0, "kind 2 the place of the first letter of the first STATEMENT that, behind all ahead of it in the text,"
            + " is not as it must be");
        edge.tells(ONE, "s1,1*1;d1;", 2);
        edge.faults(ONE, "d1;s1,1*1;", -2000);
        edge.tells(ONE, "d0;s1,1*1;d0;", 3);
        edge.faults(ONE, "d0;d0;s1,1*1;", -2003);
        edge.tells(EIGHT, "d7;s1,1*1;", 2);
        edge.faults(EIGHT, "s1,1*1;d7;", -2000);
        edge.faults(EIGHT, "d7;s1,1*1;i0:1,1*1;", -2010);
        edge.faults(ONE, "s1,1*1;".repeat(8), -2049);
        edge.tells(ONE, "s1,1*1;".repeat(7), 7);
        edge.faults(ONE, "r;d9;d9;", -2002);
        edge.faults(ONE, "d0;k0=1,1;", -2003);
        edge.faults(ONE, "d0;i0:1,1*1;", -2003);
        edge.faults("", "r;k0=0,0;", -2002);
        // What a STATEMENT that is not as it must be would have done helps none behind it.
        edge.faults("", "i0:1,1*1;d0;", -2000);
    }

    private void nothingOfIt() {
        edge.of(0, "Without FAULT all of it comes, with one nothing.");
        TraverseClosed x = Edge.silent(ONE);
        edge.is(Due.tell(x, "s2,2*2;k1=1,1;d0;r;"), 4);
        edge.is(x.count(0), 1);
        dueSide(x, 0, 1, 1, -2, -2, 2);
        edge.faults(ONE, "s2,2*2;k1=1,1;d0;r;d1;", -2019);
        edge.faults(ONE, "s2,2*2;k1=1,1;d0;r;d", -1020);
        edge.faults(ONE, "s2,2*2;k1=1,1;d0;r;x", -1019);
    }
}
