/** The bounds of images, kinds, asks, counts and the status (part 4 of the terms, promises 32 to 39), by sentences. */
public final class AskBoundsTest {
    private static final Due due = new Due("AskBoundsTest");
    private static final int LEAST = Integer.MIN_VALUE, MOST = Integer.MAX_VALUE;
    private static final String ALL_KINDS = "b5;m3,0;m7,0;g0,1,9;l1,2,9;h1,3,9;s1,4,9;w0,8,9;";

    public static void main(String[] args) {
        imagesThatThereAre();
        imagesOfTheRun();
        restored();
        noActThen();
        kindsOfPieces();
        takenAs();
        statusOfAs();
        asks();
        asksOfAll();
        tracesOfAsks();
        noMoreThanSixteen();
        counts();
        countsAtTheMost();
        statusAtFirst();
        statusOfFindings();
        statusStays();
        due.end();
    }

    private static int[] beyond(int least, int most) {
        return new int[] {least - 1, most + 1, -100, 100, LEAST, MOST};
    }

    private static void imagesThatThereAre() {
        due.by("An IMAGE (0, 1) is kept of the RUN: 1. BAD; STATE: no RUN.");
        MarbleRun x = Due.told(ALL_KINDS);
        MarbleRun none = new MarbleRun();
        for (int k = 0; k <= 1; k++) {
            due.is("no RUN", none.image(k), Due.STATE);
            due.is("none was kept", none.restore(k), Due.STATE);
            due.is("none was kept of the RUN", x.restore(k), Due.STATE);
            due.is("image " + k, x.image(k), 1);
            due.is("restore " + k, x.restore(k), 1);
        }
        for (int k : beyond(0, 1)) {
            due.is("image " + k, x.image(k), Due.BAD);
            due.is("restore " + k, x.restore(k), Due.BAD);
            due.is("BAD ahead of no RUN", none.image(k), Due.BAD);
            due.is("BAD ahead of none kept", none.restore(k), Due.BAD);
        }
        MarbleRun one = Due.told(ALL_KINDS);
        one.image(0);
        due.is("the other was not kept", one.restore(1), Due.STATE);
        one = Due.told(ALL_KINDS);
        one.image(1);
        due.is("nor the first by the second", one.restore(0), Due.STATE);
    }

    private static void imagesOfTheRun() {
        due.by("An IMAGE (0, 1) is kept of the RUN");
        MarbleRun x = Due.told("b5;m3,0;m7,0;h0,8,9;");
        x.tip(0);
        x.image(0);
        due.is("acts can be undone yet", x.undo(), 0);
        due.is("POINT", x.piece(0, 0), 0);
        x.restore(0);
        due.is("the image has it", x.piece(0, 0), 1);
        x.tip(0);
        x.restore(0);
        due.is("what is done behind it does not change it", x.piece(0, 0), 1);
        x.tip(0);
        x.image(0);
        x.tip(0);
        x.restore(0);
        due.is("kept anew", x.piece(0, 0), 0);
    }

    private static void restored() {
        due.by("The RUN is as an IMAGE kept it");
        for (String part : Whole.PARTS) {
            MarbleRun one = kept();
            one.restore(1);
            MarbleRun other = kept();
            Due.read(other, "b9;m1,0;m1,0;m1,0;m1,0;m1,0;m1,0;w0,8,9;");
            other.ticks(20);
            due.is("restored", other.restore(1), 1);
            due.holds("alike by " + part, Whole.part(one, part).equals(Whole.part(other, part)));
        }
    }

    /** A run with something of everything, of which image 1 is kept. */
    private static MarbleRun kept() {
        MarbleRun x = Due.told("b5;m3,0;m7,0;m2,1;m9,20;m5,2;h0,1,2;w0,8,9;s1,8,9;");
        x.ticks(2);
        x.lead(2, 0, 9);
        x.tip(1);
        x.image(1);
        return x;
    }

    private static void noActThen() {
        due.by("(no ACT can be undone then): 1. BAD; STATE: none was kept.");
        MarbleRun x = Due.told(ALL_KINDS);
        x.ticks(5);
        x.image(0);
        due.is("acts", x.count(6), 5);
        x.tip(0);
        due.is("no image", x.restore(1), Due.STATE);
        due.is("acts stay", x.count(6), 6);
        x.restore(0);
        due.is("no act", x.count(6), 0);
        due.is("none to undo", x.undo(), Due.STATE);
        due.is("TICK", x.count(3), 5);
        x.tip(0);
        due.is("new ones", x.undo(), 0);
    }

    private static void kindsOfPieces() {
        due.by("The KIND of a PIECE, as told (1 to 5). BAD.");
        MarbleRun x = Due.told(ALL_KINDS);
        for (int p = 0; p < 5; p++) {
            due.is("kind of " + p, x.kind(p), p + 1);
        }
        for (int p : beyond(0, 4)) {
            due.is("kind of " + p, x.kind(p), Due.BAD);
        }
        x = Due.told("b1;m1,0;w0,8,9;s0,8,9;h0,8,9;l0,8,9;g0,8,9;w0,8,9;s0,8,9;h0,8,9;");
        int[] kinds = {5, 4, 3, 2, 1, 5, 4, 3};
        for (int p = 0; p < 8; p++) {
            due.is("kind of " + p, x.kind(p), kinds[p]);
        }
        due.is("no RUN", new MarbleRun().kind(0), Due.BAD);
    }

    private static void takenAs() {
        due.by("KINDS of PIECES: 0 PIECE; 1 GATE, a PIECE; 2 LATCH, a GATE; 3 HOLDER, a GATE; 4 SILL, a PIECE; 5 SCALE, a SILL "
            + ".. its number. BAD; KIND: it is no such one.");
        MarbleRun x = Due.told(ALL_KINDS);
        boolean[][] is = {{true, true, false, false, false, false}, {true, true, true, false, false, false},
            {true, true, false, true, false, false}, {true, false, false, false, true, false},
            {true, false, false, false, true, true}};
        for (int p = 0; p < 5; p++) {
            for (int kind = 0; kind <= 5; kind++) {
                due.is(p + " as " + kind, x.as(p, kind), is[p][kind] ? p : Due.KIND);
            }
            for (int kind : beyond(0, 5)) {
                due.is(p + " as " + kind, x.as(p, kind), Due.BAD);
            }
        }
        for (int p : beyond(0, 4)) {
            for (int kind = -1; kind <= 6; kind++) {
                due.is(p + " as " + kind, x.as(p, kind), Due.BAD);
            }
        }
        due.is("no RUN", new MarbleRun().as(0, 0), Due.BAD);
        due.is("the last of eight", Due.told("b1;m1,0;" + "g0,8,9;".repeat(7) + "w0,8,9;").as(7, 4), 7);
    }

    private static void statusOfAs() {
        due.by("Of the latest call with a ROW, or as(), that was not BAD, STATE, FULL: the number of its FINDING");
        MarbleRun x = Due.told(ALL_KINDS);
        x.as(0, 2);
        due.is("KIND", x.status(), 3);
        x.as(0, 6);
        due.is("BAD leaves it", x.status(), 3);
        x.as(5, 0);
        due.is("BAD leaves it, too", x.status(), 3);
        x.as(0, 1);
        due.is("it is one", x.status(), 0);
        x.drop(0);
        due.is("a ROW", x.status(), 1);
        x.as(4, 4);
        due.is("as behind a ROW", x.status(), 0);
        x.as(4, 1);
        x.row(0, 0, 0);
        due.is("a ROW behind as", x.status(), 0);
    }

    private static void asked(MarbleRun x, int piece, int what, int answer, int... bodies) {
        String call = Calls.told("ask", piece, what);
        due.is(call, x.ask(piece, what), answer);
        for (int i = 0; i < 16; i++) {
            due.is(call + ", trace " + i, x.trace(i), i < bodies.length ? bodies[i] : Due.NONE);
        }
    }

    /** POINTS 0, 1, 1, 1, 0, then three of the others; over each piece of the left way went two. */
    private static void asks() {
        due.by("0 SIZE .. 1 MARK .. the BODY told for the KIND begins, else that of the nearest KIND that it is, too, else the one "
            + "that is lent");
        MarbleRun x = Due.told("b5;m3,0;m7,0;g0,1,1;l1,2,2;h1,3,3;s1,4,4;w0,5,5;l0,6,6;h0,7,7;g1,8,9;");
        x.ticks(8);
        asked(x, 0, 0, 2, 11, 10, 21, 20);
        asked(x, 0, 1, 0, 21, 20);
        asked(x, 1, 0, -4, 12, 11, 10, 24, 21, 20);
        asked(x, 1, 1, 2, 24, 21, 20);
        asked(x, 2, 0, -995, 11, 10, 22, 21, 20);
        asked(x, 2, 1, -997, 22, 21, 20);
        asked(x, 3, 0, -98, 13, 10);
        asked(x, 3, 1, 101, 23, 20, 13, 10);
        asked(x, 4, 0, -196, 14, 13, 10);
        asked(x, 4, 1, 200, 23, 20, 14, 13, 10);
        asked(x, 5, 0, -14, 12, 11, 10, 24, 21, 20);
        asked(x, 5, 1, 12, 24, 21, 20);
        asked(x, 6, 0, -992, 11, 10, 22, 21, 20);
        asked(x, 6, 1, -994, 22, 21, 20);
        asked(x, 7, 0, 10, 11, 10, 21, 20);
        asked(x, 7, 1, 8, 21, 20);
    }

    private static void asksOfAll() {
        due.by("An ASK (0, 1) of a PIECE. BAD.");
        MarbleRun x = Due.told(ALL_KINDS);
        for (int what : beyond(0, 1)) {
            due.is("ask " + what, x.ask(0, what), Due.BAD);
        }
        for (int p : beyond(0, 4)) {
            due.is("piece " + p, x.ask(p, 0), Due.BAD);
            due.is("piece " + p, x.ask(p, 1), Due.BAD);
        }
        due.is("no trace of these", x.trace(0), Due.NONE);
        due.is("no RUN", new MarbleRun().ask(0, 0), Due.BAD);
    }

    private static void tracesOfAsks() {
        due.by("THE TRACE is empty ahead of it. .. Number i of THE TRACE; NONE.");
        MarbleRun x = Due.told(ALL_KINDS);
        due.is("at first", x.trace(0), Due.NONE);
        x.ask(1, 0);
        due.is("the first", x.trace(0), 12);
        due.is("the last", x.trace(5), 20);
        for (int i : new int[] {-1, 6, 15, 16, 17, LEAST, MOST}) {
            due.is("trace " + i, x.trace(i), Due.NONE);
        }
        x.ask(3, 0);
        due.is("the first of the next", x.trace(0), 13);
        due.is("the last of the next", x.trace(1), 10);
        due.is("none of the one before", x.trace(2), Due.NONE);
        x.ask(3, 2);
        due.is("a refused one leaves it", x.trace(0), 13);
        x.ticks(1);
        x.undo();
        x.as(0, 0);
        due.is("so do other calls", x.trace(1), 10);
        due.is("of a new object", new MarbleRun().trace(0), Due.NONE);
    }

    /** No ask has more than six bodies, so that sixteen are never full; but no number beyond them is told. */
    private static void noMoreThanSixteen() {
        due.by("each of which leaves its number in THE TRACE as it begins (the first 16)");
        MarbleRun x = Due.told(ALL_KINDS);
        for (int k = 0; k < 10; k++) {
            for (int p = 0; p < 5; p++) {
                x.ask(p, k % 2);
            }
        }
        int[] last = {23, 20, 14, 13, 10};
        for (int i = 0; i < 40; i++) {
            due.is("trace " + i, x.trace(i), i < last.length ? last[i] : Due.NONE);
        }
    }

    private static void counts() {
        due.by("How many: 0 ROWS, 1 PIECES, 2 MARBLES, 3 TICK, 4 how many RUN, 5 WENT of all together, 6 ACTS that can be undone, "
            + "7 bytes on the tape. BAD.");
        MarbleRun none = new MarbleRun();
        MarbleRun x = Due.told("b5;m3,0;m7,0;m1,20;g0,1,1;h1,3,9;s1,4,9;");
        x.row(2, 0, 0);
        x.row(5, 1, 40);
        for (int k = 0; k < 4; k++) {
            x.feed('x');
        }
        x.tip(0);
        x.ticks(1);
        int[] dues = {2, 3, 3, 1, 2, 2, 2, 4};
        for (int what = 0; what <= 7; what++) {
            due.is("of a new object, " + what, none.count(what), 0);
            due.is("count " + what, x.count(what), dues[what]);
        }
        for (int what : beyond(0, 7)) {
            due.is("of a new object, " + what, none.count(what), Due.BAD);
            due.is("count " + what, x.count(what), Due.BAD);
        }
        x.ticks(1);
        due.is("none RUNS", x.count(4), 0);
        due.is("WENT", x.count(5), 4);
        due.is("TICK", x.count(3), 2);
        due.is("acts", x.count(6), 3);
        x.undo();
        due.is("acts then", x.count(6), 2);
        due.is("WENT then", x.count(5), 2);
    }

    private static void countsAtTheMost() {
        due.by("ROWS 0 .. 7 .. 110 bytes .. 6 at most .. 8 at most .. 24 at most are kept .. TICK would be above 999");
        MarbleRun x = Due.told("b1;m1,0;m1,0;m1,0;m1,0;m1,0;m1,0;g0,1,1;" + "s0,8,9;".repeat(7));
        for (int row = 0; row <= 7; row++) {
            x.row(row, 0, 40);
        }
        for (int k = 0; k < 111; k++) {
            x.feed('b');
        }
        x.ticks(1);
        due.is("RUN", x.count(4), 6);
        for (int k = 0; k < 41; k++) {
            x.ticks(24);
        }
        x.ticks(14);
        int[] dues = {8, 8, 6, 999, 0, 12, 24, 110};
        for (int what = 0; what <= 7; what++) {
            due.is("count " + what, x.count(what), dues[what]);
        }
    }

    private static void statusAtFirst() {
        due.by("0: it had none, or there was none.");
        MarbleRun x = new MarbleRun();
        due.is("a new object", x.status(), 0);
        x.row(8, 0, -1);
        x.set(8, 0, 0);
        x.copy(8, 0, 0, 0, 0);
        x.drop(8);
        x.as(0, 0);
        x.who(0, 0, 0, 0, 1);
        x.weights(0, 0, 0, 0, 1);
        due.is("all were BAD", x.status(), 0);
    }

    private static void statusOfFindings() {
        due.by("-1000010 less 1 NULL .. 2 PLACE .. 3 KIND .. 4 SIZE .. 5 STORE");
        MarbleRun x = Due.told(ALL_KINDS);
        x.row(0, 0, 1);
        x.row(1, 1, 1);
        String[] calls = {"drop 2", "set 2 0 0", "copy 2 0 0 0 0", "who 0 0 2 0 1", "weights 0 0 2 0 1", "set 0 1 0",
            "copy 0 1 0 0 1", "who 0 0 0 1 1", "weights 0 0 0 1 1", "as 0 4", "row 0 0 -1", "copy 0 0 1 0 1"};
        int[] findings = {1, 1, 1, 1, 1, 2, 2, 2, 2, 3, 4, 5};
        for (int k = 0; k < calls.length; k++) {
            due.is(calls[k], Calls.answerLine(x, calls[k]), -1000010 - findings[k]);
            due.is("status", x.status(), findings[k]);
            due.is("status asked twice", x.status(), findings[k]);
            due.is("a good one", x.set(0, 0, 1), 1);
            due.is("status of it", x.status(), 0);
        }
    }

    /** After a finding each call that has no ROW, and each that is refused, leaves the status; others make it 0. */
    private static void statusStays() {
        due.by("Of the latest call with a ROW, or as(), that was not BAD, STATE, FULL");
        String[] stay = {"feed 98", "run", "fault", "undo", "ticks 1", "ticks 0", "tip 0", "lead 0 0 9", "again 0 1",
            "marble 0 0", "piece 0 0", "stand 0", "ahead 0 1", "stands 0 1 0", "trays 1 0", "when 0", "rest", "tips 1 0",
            "order 1 0", "leads 0 1 0", "sets 0 0", "share 0 1", "byTurns 1 1", "jam 0 1 1 0", "drawn 1 1 0", "image 0",
            "restore 1", "kind 0", "ask 0 0", "trace 0", "count 0", "row 8 0 1", "row 0 3 1", "row 0 0 41", "set 8 0 0",
            "copy 8 0 0 0 0", "copy 0 0 8 0 0", "drop 8", "who 9 0 0 0 1", "weights 9 0 0 0 1", "who 0 0 0 0 13",
            "weights 0 0 0 0 0", "as 9 0", "as 0 6", "image 2", "feed 256"};
        String[] clear = {"row 3 0 0", "set 0 0 7", "copy 0 0 0 0 0", "drop 0", "who 0 0 0 0 1", "who 0 1 0 0 1",
            "weights 0 0 0 0 1", "weights 0 1 0 0 1", "as 0 0"};
        for (String line : stay) {
            due.is("behind " + line, statusBehind(line), 2);
        }
        for (String line : clear) {
            due.is("behind " + line, statusBehind(line), 0);
        }
    }

    private static int statusBehind(String line) {
        MarbleRun x = Due.told(ALL_KINDS);
        x.row(0, 0, 1);
        x.ticks(1);
        x.set(0, 1, 1);
        Calls.answerLine(x, line);
        return x.status();
    }
}
