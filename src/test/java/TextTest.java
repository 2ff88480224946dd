/** Promises 1 and 6 to 8: what is told. */
public final class TextTest {
    private static final Due due = new Due("TextTest");

    public static void main(String[] args) {
        isNew();
        feeds();
        reads();
        misplaced();
        notAsTold();
        noRoom();
        firstOfSeveral();
        keepsWhatIsThere();
        due.end();
    }

    private static void isNew() {
        MarbleRun x = new MarbleRun();
        for (int what = 0; what <= 7; what++) {
            due.is("new count " + what, x.count(what), 0);
        }
        due.is("no RUN", x.stand(0), Due.STATE);
        due.is("no fault", x.fault(), 0);
        due.is("no status", x.status(), 0);
        due.is("no act", x.undo(), Due.STATE);
        due.is("no image", x.restore(1), Due.STATE);
        due.is("no trace", x.trace(0), Due.NONE);
        due.is("no row", x.drop(0), Due.NULL);
    }

    private static void feeds() {
        MarbleRun x = new MarbleRun();
        due.is("least", x.feed(0), 1);
        due.is("most", x.feed(255), 2);
        due.is("below", x.feed(-1), Due.BAD);
        due.is("above", x.feed(256), Due.BAD);
        for (int k = 3; k <= 110; k++) {
            due.is("byte " + k, x.feed('b'), k);
        }
        due.is("full", x.feed('b'), Due.FULL);
        due.is("BAD ahead of FULL", x.feed(256), Due.BAD);
        due.is("bytes", x.count(7), 110);
        due.is("read", x.run(), -1000100);
        due.is("empty then", x.count(7), 0);
        due.is("room again", x.feed('b'), 1);
    }

    private static void reads() {
        MarbleRun x = new MarbleRun();
        due.is("least", Due.read(x, "b1;m1,0;g0,1,9;"), 1);
        due.is("its marbles", x.count(2), 1);
        due.is("two figures", Due.read(x, "b09;m01,20;m9,00;g01,08,01;w0,2,3;"), 2);
        due.is("bar", x.stand(0), 9);
        due.is("weight", x.marble(0, 0), 1);
        due.is("start", x.marble(0, 1), 20);
        due.is("weight of 1", x.marble(1, 0), 9);
        due.is("start of 1", x.marble(1, 1), 0);
        due.is("point", x.piece(0, 0), 1);
        due.is("left", x.piece(0, 1), 8);
        due.is("right", x.piece(0, 2), 1);
        due.is("a piece that there is not", x.piece(1, 2), 3);
        due.is("kind", x.kind(1), 5);
        due.is("the most", Due.read(x,
            "b9;m9,20;m9,20;m9,20;m9,20;m9,20;m9,20;g0,1,9;l1,2,9;h0,3,9;s1,4,9;w0,5,9;g1,6,9;l0,7,9;h1,8,9;"), 8);
        int[] kinds = {1, 2, 3, 4, 5, 1, 2, 3};
        for (int p = 0; p < 8; p++) {
            due.is("kind of " + p, x.kind(p), kinds[p]);
            due.is("point of " + p, x.piece(p, 0), p % 2);
            due.is("left of " + p, x.piece(p, 1), p + 1);
        }
        due.is("no fault yet", x.fault(), 0);
    }

    private static void fails(String text, int number, int place) {
        MarbleRun x = new MarbleRun();
        due.is("'" + text + "'", Due.read(x, text), -1000100 - place);
        due.is("fault of '" + text + "'", x.fault(), number);
        due.is("no RUN by '" + text + "'", x.rest(), Due.STATE);
        due.is("tape behind '" + text + "'", x.count(7), 0);
    }

    private static void misplaced() {
        fails("", 1, 0);
        fails("m1,0;g0,8,9;", 1, 0);
        fails("B1;", 1, 0);
        fails(" b1;", 1, 0);
        fails("b 1;", 1, 1);
        fails("b;", 1, 1);
        fails("bb", 1, 1);
        fails("b1,", 1, 2);
        fails("b1m", 1, 2);
        fails("b100;", 1, 1);
        fails("b1234;", 1, 1);
        fails("b001;", 1, 1);
        fails("123", 1, 0);
        fails("b1;b1;", 1, 3);
        fails("b1;g0,8,9;", 1, 3);
        fails("b1;m;", 1, 4);
        fails("b1;m1;", 1, 5);
        fails("b1;m1,;", 1, 6);
        fails("b1;m1,0,", 1, 7);
        fails("b1;m1,020;g0,8,9;", 1, 6);
        fails("b1;m1,0;1", 1, 8);
        fails("b1;m1,0;b1;", 1, 8);
        fails("b1;m1,0;;", 1, 8);
        fails("b1;m1,0;g,8,9;", 1, 9);
        fails("b1;m1,0;g0;8,9;", 1, 10);
        fails("b1;m1,0;g0,8;9;", 1, 12);
        fails("b1;m1,0;g0,8,9,", 1, 14);
        fails("b1;m1,0;g0,8,9", 1, 14);
        fails("b1;m1,0;g0,8,", 1, 13);
        fails("b1;m1,0;g0,8,9;m1,0;", 1, 15);
        fails("b1;m1,0;g0,8,9;;", 1, 15);
        fails("b1;m1,0;g0,8,9;\n", 1, 15);
        fails("b1;m1,0;g0,8,9;g", 1, 16);
        fails("b1;m1,0;gg,8,9;", 1, 9);
        fails("b1;m1,0;g0,8,999;", 1, 13);
    }

    private static void notAsTold() {
        fails("b0;", 2, 1);
        fails("b00;", 2, 1);
        fails("b10;", 2, 1);
        fails("b1;m0,0;", 2, 4);
        fails("b1;m10,0;", 2, 4);
        fails("b1;m1,21;", 2, 6);
        fails("b1;m1,99;", 2, 6);
        fails("b1;m1,0;g2,8,9;", 2, 9);
        fails("b1;m1,0;g0,0,9;", 2, 11);
        fails("b1;m1,0;g0,10,9;", 2, 11);
        fails("b1;m1,0;g0,9,0;", 2, 13);
        fails("b1;m1,0;g0,9,10;", 2, 13);
        fails("b1;m1,0;g0,8,9;g0,1,9;", 2, 18);
        fails("b1;m1,0;g0,8,9;g0,2,1;", 2, 20);
        fails("b1;m1,0;g0,1,1;g0,2,2;g0,3,3;g0,4,4;g0,5,5;g0,6,6;g0,7,7;g0,7,8;", 2, 60);
    }

    private static void noRoom() {
        String marbles = "b1;m1,0;m1,0;m1,0;m1,0;m1,0;m1,0;";
        fails(marbles + "m1,0;g0,8,9;", 3, 33);
        fails(marbles + "m", 3, 33);
        fails(marbles, 1, 33);
        fails(marbles + "x", 1, 33);
        String pieces = "b1;m1,0;g0,8,9;g0,8,9;g0,8,9;g0,8,9;g0,8,9;g0,8,9;g0,8,9;g0,8,9;";
        fails(pieces + "g0,9,9;", 3, 64);
        fails(pieces + "w", 3, 64);
        fails(pieces + "m", 1, 64);
        fails(pieces + "7", 1, 64);
        due.is("eight are read", Due.read(new MarbleRun(), pieces), 8);
    }

    private static void firstOfSeveral() {
        fails("b0,m1", 2, 1);
        fails("b1;m0,21;", 2, 4);
        fails("b1;m1;21;", 1, 5);
        fails("b1;m1,0;g2,0,10", 2, 9);
        fails("b0;\u00ff", 2, 1);
    }

    private static void keepsWhatIsThere() {
        MarbleRun x = Due.told("b5;m3,0;g0,8,9;");
        x.tip(0);
        x.image(0);
        due.is("a fault", Due.read(x, "b0;"), -1000101);
        due.is("its number", x.fault(), 2);
        due.is("the RUN stays", x.stand(0), 5);
        due.is("the act stays", x.count(6), 1);
        due.is("another fault", Due.read(x, "b"), -1000101);
        due.is("the latest number", x.fault(), 1);
        due.is("a RUN in its place", Due.read(x, "b6;m3,0;m2,0;l0,8,9;"), 1);
        due.is("the latest number stays", x.fault(), 1);
        due.is("its bar", x.stand(0), 6);
        due.is("no act can be undone", x.undo(), Due.STATE);
        due.is("all wait", x.stand(1), 3);
        x.ticks(3);
        due.is("anew", Due.read(x, "b6;m3,0;m2,0;h0,8,9;w0,8,9;"), 2);
        due.is("TICK 0", x.count(3), 0);
        due.is("none went", x.count(5), 0);
        due.is("holds none", x.piece(0, 3), Due.NONE);
        due.is("no burden", x.piece(0, 5), 0);
        due.is("all wait anew", x.stand(1), 3);
        due.is("the image stays", x.restore(0), 1);
        due.is("its RUN", x.stand(0), 5);
    }
}
