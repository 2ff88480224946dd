/** Promises 9 to 16: what is done, and how all stands behind it. */
public final class DoneTest {
    private static final Due due = new Due("DoneTest");

    public static void main(String[] args) {
        gates();
        latches();
        holders();
        holdersAndHigherNumbers();
        twoAtOneHolder();
        sills();
        scales();
        starts();
        ways();
        ticksAreRefused();
        tips();
        leads();
        throwsAnew();
        undoes();
        forgets();
        tells();
        countsUpTo();
        due.end();
    }

    private static void gates() {
        MarbleRun x = Due.told("b5;m3,0;m7,0;m1,0;g0,8,9;");
        due.is("gate", x.ticks(1), 2);
        due.is("gate's left", x.stand(4), 5);
        due.is("gate's point", x.piece(0, 0), 1);
        due.is("gate's WENT", x.piece(0, 4), 3);
        due.is("gate's BURDEN", x.piece(0, 5), 11);
        due.is("TICK", x.count(3), 1);
    }

    private static void latches() {
        MarbleRun x = Due.told("b5;m1,0;m1,0;m1,0;m1,0;m1,0;l1,8,9;");
        due.is("latch", x.ticks(1), 0b10011);
        due.is("latch's point", x.piece(0, 0), 1);
        x = Due.told("b5;m1,0;m1,0;l1,8,9;");
        x.ticks(1);
        due.is("latch's point by two", x.piece(0, 0), 0);
        x = Due.told("b5;m1,0;l1,8,9;");
        x.ticks(1);
        due.is("latch's point by one", x.piece(0, 0), 1);
    }

    private static void holders() {
        MarbleRun x = Due.told("b5;m4,0;m2,1;h0,1,9;g0,8,9;");
        due.is("held", x.ticks(1), 0);
        due.is("where", x.marble(0, 2), 20);
        due.is("held bits", x.stand(3), 1);
        due.is("holds", x.piece(0, 3), 0);
        due.is("counted", x.piece(0, 4), 1);
        due.is("let go", x.ticks(1), 2);
        due.is("sent on, to LEFT", x.marble(0, 2), 1);
        due.is("not further", x.piece(1, 4), 0);
        due.is("holds none", x.piece(0, 3), Due.NONE);
        due.is("counted once each", x.piece(0, 4), 2);
        due.is("BURDEN once each", x.piece(0, 5), 6);
        due.is("on", x.ticks(1), 2);
        due.is("left tray", x.stand(4), 1);
    }

    private static void holdersAndHigherNumbers() {
        MarbleRun x = Due.told("b5;m1,1;m2,0;h0,1,9;g0,8,9;");
        x.ticks(1);
        due.is("held", x.marble(1, 2), 20);
        x.ticks(1);
        due.is("through", x.marble(0, 2), 9);
        due.is("let go, but not on in the same tick", x.marble(1, 2), 1);
        due.is("runs there", x.piece(1, 6), 2);
    }

    private static void twoAtOneHolder() {
        MarbleRun x = Due.told("b5;m1,0;m2,0;m3,0;h0,8,9;");
        due.is("two at once", x.ticks(1), 2);
        due.is("the first left", x.stand(4), 1);
        due.is("the third held", x.stand(3), 4);
        due.is("none is left to let it go", x.rest(), 0);
    }

    private static void sills() {
        MarbleRun x = Due.told("b5;m4,0;m5,0;m6,0;s0,8,9;");
        due.is("sill", x.ticks(1), 6);
        due.is("sill's point stays", x.piece(0, 0), 0);
        x = Due.told("b5;m4,0;m5,0;m6,0;s1,8,9;");
        due.is("point is no matter", x.ticks(1), 6);
    }

    private static void scales() {
        MarbleRun x = Due.told("b5;m3,0;m5,0;m2,0;m1,0;w0,8,9;");
        due.is("scale", x.ticks(1), 6);
        due.is("its left", x.stand(4), 9);
        due.is("its burden", x.piece(0, 5), 11);
    }

    private static void starts() {
        MarbleRun x = Due.told("b5;m3,2;m3,0;g0,8,9;");
        x.ticks(2);
        due.is("waits", x.marble(0, 2), 10);
        due.is("still", x.stand(1), 1);
        x.ticks(1);
        due.is("started in TICK 2", x.marble(0, 2), 9);
    }

    private static void ways() {
        MarbleRun x = Due.told("b5;m3,0;g0,5,9;s0,8,9;");
        x.ticks(1);
        due.is("a piece that there is not", x.marble(0, 2), 8);
        due.is("none runs", x.stand(2), 0);
        x = Due.told("b5;m3,0;g0,2,9;s0,8,9;");
        x.ticks(1);
        due.is("the first piece that there is not", x.marble(0, 2), 8);
        x = Due.told("b5;m3,0;m9,1;g0,1,2;s0,8,9;w1,8,9;");
        x.ticks(1);
        due.is("on piece 1", x.marble(0, 2), 1);
        due.is("running", x.stand(2), 1);
        due.is("how many run", x.count(4), 1);
        x.ticks(1);
        due.is("left by the sill", x.marble(0, 2), 8);
        due.is("on piece 2", x.piece(2, 6), 2);
        due.is("WENT of all", x.count(5), 3);
    }

    private static void ticksAreRefused() {
        MarbleRun x = new MarbleRun();
        due.is("no RUN ahead of BAD", x.ticks(0), Due.STATE);
        x = Due.told("b5;m3,0;g0,8,9;");
        due.is("none", x.ticks(0), Due.BAD);
        due.is("below", x.ticks(-1), Due.BAD);
        due.is("25", x.ticks(25), Due.BAD);
        for (int k = 0; k < 41; k++) {
            x.ticks(24);
        }
        due.is("TICK", x.count(3), 984);
        due.is("above 999", x.ticks(16), Due.FULL);
        due.is("TICK stays", x.count(3), 984);
        due.is("up to 999", x.ticks(15), 0);
        due.is("TICK is 999", x.count(3), 999);
        due.is("not one more", x.ticks(1), Due.FULL);
        due.is("BAD ahead of FULL", x.ticks(25), Due.BAD);
        due.is("acts", x.count(6), 24);
        due.is("thrown anew", x.again(0, 2), 1);
        due.is("its start", x.marble(0, 1), 999);
        due.is("foretold beyond 999", x.when(0), 1);
    }

    private static void tips() {
        MarbleRun x = Due.told("b5;m3,0;g0,8,9;s1,8,9;");
        due.is("tip", x.tip(0), 1);
        due.is("tip back", x.tip(0), 0);
        due.is("tip a sill", x.tip(1), 0);
        due.is("below", x.tip(-1), Due.BAD);
        due.is("above", x.tip(2), Due.BAD);
        due.is("acts", x.count(6), 3);
        x.tip(0);
        due.is("the other way", x.ticks(1), 1);
    }

    private static void leads() {
        MarbleRun x = Due.told("b5;m3,0;g0,8,9;s1,8,9;");
        due.is("left", x.lead(0, 0, 1), 8);
        due.is("led", x.piece(0, 1), 1);
        due.is("right", x.lead(1, 1, 2), 9);
        due.is("led right", x.piece(1, 2), 2);
        due.is("its left stays", x.piece(1, 1), 8);
        due.is("to its own number", x.lead(1, 0, 1), Due.BAD);
        due.is("to above", x.lead(1, 0, 10), Due.BAD);
        due.is("to below", x.lead(0, 0, -1), Due.BAD);
        due.is("side below", x.lead(0, -1, 9), Due.BAD);
        due.is("side above", x.lead(0, 2, 9), Due.BAD);
        due.is("no such piece", x.lead(2, 0, 9), Due.BAD);
        due.is("piece below", x.lead(-1, 0, 9), Due.BAD);
        due.is("acts", x.count(6), 2);
        x.ticks(1);
        due.is("goes there", x.marble(0, 2), 1);
        due.is("back", x.lead(0, 0, 9), 1);
    }

    private static void throwsAnew() {
        MarbleRun x = Due.told("b5;m3,0;m3,4;m3,0;g0,8,9;g0,8,9;");
        due.is("waiting", x.again(0, 1), Due.STATE);
        x.ticks(2);
        due.is("weight below", x.again(0, 0), Due.BAD);
        due.is("weight above", x.again(0, 10), Due.BAD);
        due.is("no such marble", x.again(3, 1), Due.BAD);
        due.is("marble below", x.again(-1, 1), Due.BAD);
        due.is("BAD ahead of STATE", x.again(1, 0), Due.BAD);
        due.is("anew", x.again(2, 9), 6);
        due.is("weight", x.marble(2, 0), 9);
        due.is("start", x.marble(2, 1), 2);
        due.is("where", x.marble(2, 2), 10);
        due.is("it waits already", x.again(2, 9), Due.STATE);
        due.is("from the left tray", x.again(0, 1), 7);
        due.is("burden", x.piece(0, 5), 6);
        x.ticks(1);
        due.is("burden anew", x.piece(0, 5), 16);
        due.is("acts", x.count(6), 5);
        x = Due.told("b5;m3,0;h0,8,9;");
        x.ticks(1);
        due.is("held", x.again(0, 1), Due.STATE);
    }

    private static void undoes() {
        MarbleRun x = Due.told("b5;m4,0;m2,1;h0,1,9;g0,8,9;");
        due.is("none", x.undo(), Due.STATE);
        x.ticks(2);
        x.tip(1);
        x.lead(0, 0, 8);
        x.again(1, 7);
        due.is("acts", x.count(6), 5);
        due.is("again", x.undo(), 4);
        due.is("weight", x.marble(1, 0), 2);
        due.is("start", x.marble(1, 1), 1);
        due.is("where", x.marble(1, 2), 9);
        due.is("lead", x.undo(), 3);
        due.is("left", x.piece(0, 1), 1);
        due.is("tip", x.undo(), 2);
        due.is("point", x.piece(1, 0), 0);
        due.is("a tick", x.undo(), 1);
        due.is("TICK", x.count(3), 1);
        due.is("held again", x.piece(0, 3), 0);
        due.is("where it was", x.marble(0, 2), 20);
        due.is("waits again", x.marble(1, 2), 10);
        due.is("WENT", x.piece(0, 4), 1);
        due.is("BURDEN", x.piece(0, 5), 4);
        due.is("the first", x.undo(), 0);
        due.is("TICK 0", x.count(3), 0);
        due.is("no more", x.undo(), Due.STATE);
        due.is("onward as before", x.ticks(2), 2);
    }

    private static void forgets() {
        MarbleRun x = Due.told("b5;m4,0;g0,8,9;");
        x.tip(0);
        x.tip(0);
        due.is("24 acts more", x.ticks(24), 0);
        due.is("24 are kept", x.count(6), 24);
        x.tip(0);
        due.is("still 24", x.count(6), 24);
        for (int k = 23; k >= 0; k--) {
            due.is("undone", x.undo(), k);
        }
        due.is("the oldest are forgotten", x.undo(), Due.STATE);
        due.is("so far back", x.count(3), 1);
    }

    private static void tells() {
        MarbleRun x = Due.told("b7;m4,0;m2,3;g0,1,9;h0,8,9;");
        x.ticks(1);
        due.is("RUNS", x.marble(0, 2), 1);
        due.is("no such what", x.marble(0, 3), Due.BAD);
        due.is("what below", x.marble(0, -1), Due.BAD);
        due.is("no such marble", x.marble(2, 0), Due.BAD);
        due.is("marble below", x.marble(-1, 0), Due.BAD);
        due.is("runs on it", x.piece(1, 6), 1);
        due.is("none runs on it", x.piece(0, 6), 0);
        due.is("no such what of a piece", x.piece(0, 7), Due.BAD);
        due.is("what of a piece below", x.piece(0, -1), Due.BAD);
        due.is("no such piece", x.piece(2, 0), Due.BAD);
        due.is("piece below", x.piece(-1, 0), Due.BAD);
        due.is("BAR", x.stand(0), 7);
        due.is("WAIT", x.stand(1), 2);
        due.is("RUN", x.stand(2), 1);
        due.is("HELD", x.stand(3), 0);
        x.ticks(1);
        due.is("HELD then", x.stand(3), 1);
        due.is("where HELD", x.marble(0, 2), 21);
        due.is("RUN then", x.stand(2), 0);
        due.is("no such what of all", x.stand(6), Due.BAD);
        due.is("what of all below", x.stand(-1), Due.BAD);
        due.is("no RUN ahead of BAD", new MarbleRun().stand(6), Due.STATE);
        x.ticks(2);
        due.is("RIGHT TRAY", x.stand(5), 2);
        due.is("LEFT TRAY", x.stand(4), 0);
    }

    /** No 512 calls can bring so many over a piece, but the bounds are told. */
    private static void countsUpTo() {
        MarbleRun x = Due.told("b5;m9,0;m9,0;m9,0;m9,0;m9,0;m9,0;g0,8,9;");
        x.ticks(1);
        for (int t = 1; t < 200; t++) {
            for (int m = 0; m < 6; m++) {
                x.again(m, 9);
            }
            x.ticks(1);
            due.is("WENT by " + t, x.piece(0, 4), Math.min(999, 6 * (t + 1)));
            due.is("BURDEN by " + t, x.piece(0, 5), Math.min(9999, 54 * (t + 1)));
        }
    }
}
