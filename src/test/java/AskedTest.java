/** Promises 32 to 39: images, and what is asked. */
public final class AskedTest {
    private static final Due due = new Due("AskedTest");
    private static final String ALL_KINDS = "b5;m3,0;m7,0;g0,1,9;l1,2,9;h1,3,9;s1,4,9;w0,8,9;";

    public static void main(String[] args) {
        images();
        kinds();
        as();
        asksAtFirst();
        asksBehindTicks();
        traces();
        counts();
        due.end();
    }

    private static void images() {
        MarbleRun x = new MarbleRun();
        due.is("BAD ahead of STATE", x.image(2), Due.BAD);
        due.is("below", x.image(-1), Due.BAD);
        due.is("no RUN", x.image(1), Due.STATE);
        due.is("restore BAD", x.restore(2), Due.BAD);
        due.is("restore below", x.restore(-1), Due.BAD);
        due.is("none kept", x.restore(1), Due.STATE);
        Due.read(x, "b5;m3,0;m2,1;h0,8,9;g0,8,9;");
        due.is("kept", x.image(1), 1);
        due.is("the other is not", x.restore(0), Due.STATE);
        x.ticks(1);
        x.tip(1);
        x.lead(0, 1, 1);
        due.is("kept, too", x.image(0), 1);
        due.is("acts stay", x.count(6), 3);
        x.ticks(3);
        x.again(0, 9);
        due.is("back to the start", x.restore(1), 1);
        due.is("TICK", x.count(3), 0);
        due.is("waits", x.stand(1), 3);
        due.is("weight", x.marble(0, 0), 3);
        due.is("right", x.piece(0, 2), 9);
        due.is("point", x.piece(1, 0), 0);
        due.is("no act", x.undo(), Due.STATE);
        due.is("no acts", x.count(6), 0);
        due.is("the later one", x.restore(0), 1);
        due.is("TICK then", x.count(3), 1);
        due.is("held", x.piece(0, 3), 0);
        due.is("right then", x.piece(0, 2), 1);
        due.is("point then", x.piece(1, 0), 1);
        due.is("WENT then", x.piece(0, 4), 1);
        due.is("BURDEN then", x.piece(0, 5), 3);
        x.ticks(2);
        due.is("as often as one likes", x.restore(0), 1);
        due.is("TICK anew", x.count(3), 1);
        x.ticks(1);
        x.image(0);
        x.restore(1);
        x.restore(0);
        due.is("kept in place of the other", x.count(3), 2);
        Due.read(x, "b9;m1,0;w0,8,9;");
        due.is("of an earlier RUN", x.restore(1), 1);
        due.is("its pieces", x.count(1), 2);
    }

    private static void kinds() {
        MarbleRun x = Due.told(ALL_KINDS);
        for (int p = 0; p < 5; p++) {
            due.is("kind of " + p, x.kind(p), p + 1);
        }
        due.is("no such piece", x.kind(5), Due.BAD);
        due.is("below", x.kind(-1), Due.BAD);
    }

    private static void as() {
        MarbleRun x = Due.told(ALL_KINDS);
        String[] are = {"01", "012", "013", "04", "045"};
        for (int p = 0; p < 5; p++) {
            for (int kind = 0; kind <= 5; kind++) {
                boolean is = are[p].indexOf('0' + kind) >= 0;
                due.is(p + " as " + kind, x.as(p, kind), is ? p : Due.KIND);
                due.is("status of " + p + " as " + kind, x.status(), is ? 0 : 3);
            }
        }
        x.as(0, 5);
        due.is("no such piece", x.as(5, 0), Due.BAD);
        due.is("piece below", x.as(-1, 0), Due.BAD);
        due.is("kind above", x.as(0, 6), Due.BAD);
        due.is("kind below", x.as(0, -1), Due.BAD);
        due.is("BAD leaves the status", x.status(), 3);
        x.ask(0, 0);
        x.kind(0);
        due.is("so do other calls", x.status(), 3);
        x.as(0, 0);
        due.is("none", x.status(), 0);
    }

    private static void asks(MarbleRun x, int piece, int what, int answer, int... bodies) {
        String call = "ask(" + piece + ", " + what + ")";
        due.is(call, x.ask(piece, what), answer);
        for (int i = 0; i < bodies.length; i++) {
            due.is(call + " trace " + i, x.trace(i), bodies[i]);
        }
        due.is(call + " trace ends", x.trace(bodies.length), Due.NONE);
    }

    /** Points 0, 1, 1, 1, 0 and WENT 0 of all. */
    private static void asksAtFirst() {
        MarbleRun x = Due.told(ALL_KINDS);
        asks(x, 0, 0, 0, 11, 10, 21, 20);
        asks(x, 1, 0, -4, 12, 11, 10, 24, 21, 20);
        asks(x, 2, 0, -997, 11, 10, 22, 21, 20);
        asks(x, 3, 0, -100, 13, 10);
        asks(x, 4, 0, -200, 14, 13, 10);
        asks(x, 0, 1, 0, 21, 20);
        asks(x, 1, 1, 4, 24, 21, 20);
        asks(x, 2, 1, -997, 22, 21, 20);
        asks(x, 3, 1, 103, 23, 20, 13, 10);
        asks(x, 4, 1, 204, 23, 20, 14, 13, 10);
    }

    private static void asksBehindTicks() {
        MarbleRun x = Due.told("b5;m3,0;m7,0;m7,0;l1,1,1;s1,2,2;w0,3,3;g0,4,4;h0,8,9;");
        x.ticks(5);
        due.is("WENT of all", x.count(5), 15);
        // The latch swings at the second, the gate by all three; a scale has its WENT less 100, twice.
        asks(x, 0, 0, -3, 12, 11, 10, 24, 21, 20);
        asks(x, 1, 0, -97, 13, 10);
        asks(x, 2, 0, -194, 14, 13, 10);
        asks(x, 3, 0, 7, 11, 10, 21, 20);
        asks(x, 4, 0, -993, 11, 10, 22, 21, 20);
        asks(x, 1, 1, 98, 23, 20, 13, 10);
        asks(x, 2, 1, 196, 23, 20, 14, 13, 10);
        asks(x, 3, 1, 4, 21, 20);
        asks(x, 4, 1, -996, 22, 21, 20);
    }

    private static void traces() {
        MarbleRun x = Due.told(ALL_KINDS);
        due.is("at first", x.trace(0), Due.NONE);
        x.ask(1, 0);
        due.is("below", x.trace(-1), Due.NONE);
        due.is("16", x.trace(16), Due.NONE);
        due.is("most", x.trace(Integer.MAX_VALUE), Due.NONE);
        due.is("least", x.trace(Integer.MIN_VALUE), Due.NONE);
        due.is("no such ask", x.ask(1, 2), Due.BAD);
        due.is("ask below", x.ask(1, -1), Due.BAD);
        due.is("no such piece", x.ask(5, 0), Due.BAD);
        due.is("piece below", x.ask(-1, 0), Due.BAD);
        due.is("refused asks leave the trace", x.trace(5), 20);
        x.ask(0, 1);
        due.is("empty ahead of each", x.trace(2), Due.NONE);
    }

    private static void counts() {
        MarbleRun x = Due.told(ALL_KINDS);
        x.row(2, 0, 0);
        x.feed(7);
        x.feed(7);
        x.tip(0);
        x.tip(0);
        x.ticks(1);
        int[] dues = {1, 5, 2, 1, 1, 2, 3, 2};
        for (int what = 0; what < 8; what++) {
            due.is("count " + what, x.count(what), dues[what]);
        }
        due.is("what above", x.count(8), Due.BAD);
        due.is("what below", x.count(-1), Due.BAD);
    }
}
