/** The bounds of ticks and acts (part 2 of the terms, promises 9 to 16), sentence by sentence. */
public final class ActBoundsTest {
    private static final Due due = new Due("ActBoundsTest");
    private static final int LEAST = Integer.MIN_VALUE, MOST = Integer.MAX_VALUE;
    /** Eight pieces, each of which leads to the next. */
    private static final String CHAIN = "g0,1,1;g0,2,2;g0,3,3;g0,4,4;g0,5,5;g0,6,6;g0,7,7;g0,8,9;";

    public static void main(String[] args) {
        starts();
        byNumbers();
        onceInATick();
        gates();
        latches();
        holders();
        heldOnesGoOnLater();
        sills();
        scales();
        wentAtMost();
        burdenAtMost();
        ticksOfOneCall();
        tickAtMost();
        actsAtMost();
        actsUndone();
        undoneThenDone();
        tips();
        leads();
        leadsFromNowOn();
        thrownAnew();
        whereMarblesAre();
        whatOfPieces();
        whatOfAll();
        due.end();
    }

    private static MarbleRun after(String text, int ticks) {
        MarbleRun x = Due.told(text);
        for (int t = 0; t < ticks; t++) {
            x.ticks(1);
        }
        return x;
    }

    private static void starts() {
        due.by("each that WAITS and whose START is no more than TICK RUNS on PIECE 0");
        for (int start : new int[] {0, 1, 2, 19, 20}) {
            MarbleRun x = after("b1;m1," + start + ";g0,8,9;", start);
            due.is("TICK", x.count(3), start);
            due.is("waits up to TICK " + start, x.marble(0, 2), 10);
            due.is("none went", x.piece(0, 4), 0);
            x.ticks(1);
            due.is("has gone in TICK " + start, x.marble(0, 2), 8);
            due.is("one went", x.piece(0, 4), 1);
        }
    }

    private static void byNumbers() {
        due.by("Then each that RUNS (those that came just now, too), by numbers, leaves its PIECE");
        MarbleRun x = after("b1;m1,0;m1,0;m1,0;m1,0;m1,0;m1,0;g1,8,9;", 1);
        due.is("0, 2 and 4 first", x.stand(5), 0b010101);
        due.is("1, 3 and 5 behind them", x.stand(4), 0b101010);
        // Marble 0 starts later and finds marble 1 on piece 1, which leads to 2: 0 moves first, though it is higher up.
        x = after("b1;m1,1;m1,0;g0,1,2;g0,2,2;g0,8,9;", 2);
        due.is("0 and 1 on piece 2", x.piece(2, 6), 3);
        x.ticks(1);
        due.is("0 leaves it first", x.stand(4), 1);
        due.is("1 leaves it then", x.stand(5), 2);
    }

    private static void onceInATick() {
        due.by("leaves its PIECE, once in a TICK .. One that is sent to a PIECE RUNS there from the next TICK on.");
        MarbleRun x = Due.told("b1;m1,0;" + CHAIN);
        for (int p = 1; p <= 7; p++) {
            x.ticks(1);
            due.is("on piece " + p, x.marble(0, 2), p);
            due.is("it did not go over it yet", x.piece(p, 4), 0);
            due.is("it went over the one ahead", x.piece(p - 1, 4), 1);
            due.is("TICK", x.count(3), p);
        }
        x.ticks(1);
        due.is("in the tray", x.marble(0, 2), 8);
        x.ticks(1);
        due.is("it stays there", x.marble(0, 2), 8);
    }

    private static void gates() {
        due.by("a gate sends it to the side to which POINT points, then POINT is the other side");
        for (int point = 0; point <= 1; point++) {
            MarbleRun x = Due.told("b1;m1,0;m1,1;m1,2;g" + point + ",8,9;");
            for (int t = 0; t < 3; t++) {
                x.ticks(1);
                due.is("marble " + t + " by point " + point, x.marble(t, 2), 8 + (point + t) % 2);
                due.is("point then", x.piece(0, 0), (point + t + 1) % 2);
            }
        }
    }

    private static void latches() {
        due.by("a latch so, but POINT is the other side then only if WENT, this one, too, is even");
        for (int point = 0; point <= 1; point++) {
            MarbleRun x = Due.told("b1;m1,0;m1,1;m1,2;m1,3;m1,4;m1,5;l" + point + ",8,9;");
            for (int t = 0; t < 6; t++) {
                x.ticks(1);
                due.is("marble " + t + " by point " + point, x.marble(t, 2), 8 + (point + t / 2) % 2);
                due.is("point then", x.piece(0, 0), (point + (t + 1) / 2) % 2);
            }
        }
        MarbleRun x = after("b1;m1,0;m1,1;m1,2;l0,8,9;", 1);
        x.tip(0);
        x.ticks(1);
        due.is("WENT counts, not the tips by hand", x.piece(0, 0), 0);
        due.is("the second went right", x.marble(1, 2), 9);
    }

    private static void holders() {
        due.by("a holder that holds none HOLDS it; one that holds one sends that to LEFT, this one to RIGHT, then holds none");
        for (int point = 0; point <= 1; point++) {
            MarbleRun x = Due.told("b1;m4,0;m3,1;m2,2;m1,3;h" + point + ",8,9;");
            x.ticks(1);
            due.is("held", x.piece(0, 3), 0);
            due.is("where", x.marble(0, 2), 20);
            x.ticks(1);
            due.is("the first to LEFT", x.marble(0, 2), 8);
            due.is("the second to RIGHT", x.marble(1, 2), 9);
            due.is("holds none", x.piece(0, 3), Due.NONE);
            x.ticks(1);
            due.is("holds the third", x.piece(0, 3), 2);
            due.is("POINT stays", x.piece(0, 0), point);
        }
        MarbleRun x = after("b1;m4,0;m3,0;m2,0;m1,0;h0,8,9;", 1);
        due.is("four in one tick, LEFT", x.stand(4), 0b0101);
        due.is("four in one tick, RIGHT", x.stand(5), 0b1010);
        due.is("held by none", x.stand(3), 0);
    }

    private static void heldOnesGoOnLater() {
        due.by("one that was HELD and is sent on is not counted again, nor does it go on in the same TICK");
        MarbleRun x = after("b1;m4,1;m3,0;h0,1,9;g0,8,9;", 2);
        due.is("sent to piece 1", x.marble(1, 2), 1);
        due.is("not over it", x.piece(1, 4), 0);
        due.is("WENT once each", x.piece(0, 4), 2);
        due.is("BURDEN once each", x.piece(0, 5), 7);
        x.ticks(1);
        due.is("then it goes on", x.marble(1, 2), 8);
        due.is("and is counted there", x.piece(1, 5), 3);
        due.is("not here", x.piece(0, 5), 7);
        // Held and let go in one tick: the third comes to a holder that holds none.
        x = after("b1;m4,0;m3,0;m2,0;h0,1,9;h0,8,9;", 1);
        due.is("let go in the tick in which it was held", x.marble(0, 2), 1);
        due.is("the third is held", x.piece(0, 3), 2);
        x.ticks(1);
        due.is("then held below", x.piece(1, 3), 0);
    }

    private static void sills() {
        due.by("a sill sends it to RIGHT, if WEIGHT is BAR or more, else to LEFT (POINT is no matter)");
        for (int bar = 1; bar <= 9; bar++) {
            for (int weight = 1; weight <= 9; weight++) {
                MarbleRun x = after("b" + bar + ";m" + weight + ",0;s" + weight % 2 + ",8,9;", 1);
                due.is("weight " + weight + ", bar " + bar, x.marble(0, 2), weight >= bar ? 9 : 8);
                due.is("POINT stays", x.piece(0, 0), weight % 2);
            }
        }
    }

    private static void scales() {
        due.by("a scale to RIGHT, if BURDEN, this WEIGHT, too, is even, else to LEFT");
        MarbleRun x = Due.told("b1;m1,0;m1,1;m2,2;m9,3;m8,4;m5,5;w1,8,9;");
        int[] burdens = {1, 2, 4, 13, 21, 26};
        for (int t = 0; t < 6; t++) {
            x.ticks(1);
            due.is("BURDEN", x.piece(0, 5), burdens[t]);
            due.is("marble " + t, x.marble(t, 2), burdens[t] % 2 == 0 ? 9 : 8);
            due.is("POINT stays", x.piece(0, 0), 1);
        }
    }

    /** No 512 calls can bring so many over a piece: what follows goes on beyond them, to see the bound at all. */
    private static void wentAtMost() {
        due.by("WENT of the PIECE is 1 more (999 at most)");
        MarbleRun x = Due.told("b1;m1,0;m1,0;m1,0;m1,0;m1,0;m1,0;l0,1,1;w0,8,9;");
        x.ticks(2);
        for (int many = 6; many < 996; many += 6) {
            throwAll(x, 1);
            x.ticks(2);
        }
        due.is("996", x.piece(0, 4), 996);
        due.is("POINT by 996", x.piece(0, 0), 0);
        for (int many = 997; many <= 1001; many++) {
            x.again(0, 1);
            x.ticks(2);
            due.is("by " + many, x.piece(0, 4), Math.min(999, many));
            // 998 is the last even number: from then on the latch stays.
            due.is("POINT by " + many, x.piece(0, 0), many < 998 ? 0 : 1);
        }
        due.is("WENT of both", x.count(5), 1998);
        due.is("the other's BURDEN goes on", x.piece(1, 5), 1001);
        due.is("ahead, too", x.stands(0, 60, 2), 999);
    }

    private static void throwAll(MarbleRun x, int weight) {
        for (int m = 0; m < 6; m++) {
            x.again(m, weight);
        }
    }

    private static void burdenAtMost() {
        due.by("BURDEN more by its WEIGHT (9999 at most)");
        MarbleRun x = Due.told("b1;m9,0;m9,0;m9,0;m9,0;m9,0;m9,0;w0,8,9;");
        x.ticks(1);
        for (int burden = 54; burden < 9990; burden += 54) {
            throwAll(x, 9);
            x.ticks(1);
        }
        due.is("9990", x.piece(0, 5), 9990);
        x.again(0, 8);
        x.ticks(1);
        due.is("9998", x.piece(0, 5), 9998);
        due.is("is even: RIGHT", x.marble(0, 2), 9);
        x.again(0, 8);
        x.ticks(1);
        due.is("9999, not 10006", x.piece(0, 5), 9999);
        due.is("is odd: LEFT", x.marble(0, 2), 8);
        x.again(0, 1);
        x.ticks(1);
        due.is("9999 still", x.piece(0, 5), 9999);
        due.is("LEFT still", x.marble(0, 2), 8);
        x.undo();
        x.undo();
        x.undo();
        x.undo();
        due.is("undone to 9998", x.piece(0, 5), 9998);
        x.again(0, 1);
        x.ticks(1);
        due.is("9999 to the point", x.piece(0, 5), 9999);
    }

    private static void ticksOfOneCall() {
        due.by("n TICKS (1 to 24), an ACT each: MARBLES in THE RIGHT TRAY then (bits).");
        for (int n = 1; n <= 24; n++) {
            MarbleRun x = Due.told("b1;m1,0;m1,19;m1,20;g0,8,9;");
            due.is("ticks " + n, x.ticks(n), n >= 20 ? 2 : 0);
            due.is("TICK", x.count(3), n);
            due.is("acts", x.count(6), n);
            due.is("undone", x.undo(), n - 1);
            due.is("by one TICK", x.count(3), n - 1);
        }
        MarbleRun x = Due.told("b1;m1,0;g0,8,9;");
        for (int n : new int[] {0, -1, 25, LEAST, MOST}) {
            due.is("ticks " + n, x.ticks(n), Due.BAD);
            due.is("no RUN (ahead of BAD)", new MarbleRun().ticks(n), Due.STATE);
        }
        due.is("no TICK", x.count(3), 0);
        due.is("no act", x.count(6), 0);
    }

    private static void tickAtMost() {
        due.by("FULL: TICK would be above 999.");
        MarbleRun x = Due.told("b1;m1,0;g0,8,9;");
        for (int k = 0; k < 40; k++) {
            x.ticks(24);
        }
        x.ticks(15);
        due.is("TICK 975", x.count(3), 975);
        due.is("25 more are BAD, not FULL", x.ticks(25), Due.BAD);
        due.is("up to 999", x.ticks(24), 0);
        due.is("TICK 999", x.count(3), 999);
        due.is("1 more", x.ticks(1), Due.FULL);
        due.is("24 more", x.ticks(24), Due.FULL);
        due.is("0 more", x.ticks(0), Due.BAD);
        due.is("undone", x.undo(), 23);
        due.is("TICK 998", x.count(3), 998);
        due.is("2 more", x.ticks(2), Due.FULL);
        due.is("none of both", x.count(3), 998);
        due.is("1 more then", x.ticks(1), 0);
        due.is("TICK 999 again", x.count(3), 999);
        due.is("other acts are done yet", x.tip(0), 0);
        due.is("thrown anew", x.again(0, 1), 1);
        due.is("START", x.marble(0, 1), 999);
        due.is("what is foretold goes on", x.ahead(0, 1), 8);
        due.is("a new RUN", Due.read(x, "b1;m1,0;g0,8,9;"), 1);
        due.is("ticks anew", x.ticks(24), 0);
    }

    private static void actsAtMost() {
        due.by("ACTS (24 at most are kept, of more the oldest is forgotten");
        for (int acts = 22; acts <= 60; acts++) {
            MarbleRun x = Due.told("b1;m1,0;g0,8,9;");
            for (int k = 0; k < acts; k++) {
                x.lead(0, 1, 1 + k % 9);
            }
            int kept = Math.min(24, acts);
            due.is("kept of " + acts, x.count(6), kept);
            for (int k = kept - 1; k >= 0; k--) {
                due.is("undone", x.undo(), k);
                int left = acts - kept + k;
                due.is("as behind act " + left, x.piece(0, 2), left == 0 ? 9 : 1 + (left - 1) % 9);
            }
            due.is("no more", x.undo(), Due.STATE);
            due.is("acts", x.count(6), 0);
        }
    }

    private static void actsUndone() {
        due.by("each can be undone, the latest first): a TICK; POINT is the other side; a PIECE leads elsewhere (LEFT or "
            + "RIGHT); a MARBLE in a TRAY is thrown anew");
        MarbleRun x = Due.told("b1;m4,0;h0,8,9;g0,8,9;");
        due.is("none", x.undo(), Due.STATE);
        x.ticks(1);
        due.is("held", x.piece(0, 3), 0);
        due.is("a TICK", x.undo(), 0);
        due.is("TICK", x.count(3), 0);
        due.is("held by none", x.piece(0, 3), Due.NONE);
        due.is("it waits", x.marble(0, 2), 10);
        due.is("WENT", x.piece(0, 4), 0);
        due.is("BURDEN", x.piece(0, 5), 0);
        x.tip(1);
        due.is("POINT", x.undo(), 0);
        due.is("as it was", x.piece(1, 0), 0);
        x.lead(0, 0, 9);
        due.is("LEFT", x.undo(), 0);
        due.is("LEFT as it was", x.piece(0, 1), 8);
        x.lead(0, 1, 1);
        due.is("RIGHT", x.undo(), 0);
        due.is("RIGHT as it was", x.piece(0, 2), 9);
        x = after("b1;m4,0;s0,8,9;", 1);
        x.again(0, 9);
        due.is("thrown anew", x.undo(), 1);
        due.is("in the tray", x.marble(0, 2), 9);
        due.is("its WEIGHT", x.marble(0, 0), 4);
        due.is("its START", x.marble(0, 1), 0);
    }

    private static void undoneThenDone() {
        due.by("The latest ACT is undone: how many can be undone yet. STATE: none.");
        MarbleRun x = Due.told("b1;m1,0;g0,8,9;");
        x.ticks(24);
        for (int k = 23; k >= 12; k--) {
            due.is("undone", x.undo(), k);
        }
        due.is("TICK", x.count(3), 12);
        x.ticks(20);
        due.is("24 again", x.count(6), 24);
        for (int k = 23; k >= 0; k--) {
            x.undo();
        }
        due.is("so far back", x.count(3), 8);
        due.is("none", x.undo(), Due.STATE);
        due.is("TICK stays", x.count(3), 8);
        due.is("no RUN", new MarbleRun().undo(), Due.STATE);
    }

    private static void tips() {
        due.by("POINT of a PIECE is the other side: POINT then. BAD.");
        MarbleRun x = Due.told("b1;m1,0;g0,8,9;l1,8,9;h0,8,9;s1,8,9;w0,8,9;");
        for (int p = 0; p < 5; p++) {
            due.is("tip " + p, x.tip(p), 1 - p % 2);
            due.is("its POINT", x.piece(p, 0), 1 - p % 2);
            due.is("tip back " + p, x.tip(p), p % 2);
        }
        due.is("acts", x.count(6), 10);
        for (int p : new int[] {-1, 5, 8, LEAST, MOST}) {
            due.is("tip " + p, x.tip(p), Due.BAD);
        }
        due.is("no RUN", new MarbleRun().tip(0), Due.BAD);
        due.is("no act more", x.count(6), 10);
    }

    private static void leads() {
        due.by("LEFT (side 0), RIGHT (1) of a PIECE leads elsewhere (from its number and 1 on to 9): where it led. BAD.");
        for (int p = 0; p <= 7; p++) {
            for (int side = 0; side <= 1; side++) {
                MarbleRun x = Due.told("b1;m1,0;" + CHAIN);
                int other = x.piece(p, 2 - side);
                int led = x.piece(p, 1 + side);
                for (int to = p + 1; to <= 9; to++) {
                    due.is(p + " leads to " + to, x.lead(p, side, to), led);
                    due.is("there", x.piece(p, 1 + side), to);
                    led = to;
                }
                for (int to : new int[] {p, p - 1, -1, 10, 20, LEAST, MOST}) {
                    due.is(p + " leads to " + to, x.lead(p, side, to), Due.BAD);
                }
                due.is("it stays", x.piece(p, 1 + side), 9);
                due.is("the other side stays", x.piece(p, 2 - side), other);
                due.is("acts", x.count(6), 9 - p);
            }
        }
        MarbleRun x = Due.told("b1;m1,0;g0,8,9;g0,8,9;");
        for (int side : new int[] {-1, 2, LEAST, MOST}) {
            due.is("side " + side, x.lead(0, side, 9), Due.BAD);
        }
        for (int p : new int[] {-1, 2, 8, LEAST, MOST}) {
            due.is("piece " + p, x.lead(p, 0, 9), Due.BAD);
        }
        due.is("no RUN", new MarbleRun().lead(0, 0, 9), Due.BAD);
    }

    private static void leadsFromNowOn() {
        due.by("a PIECE leads elsewhere (LEFT or RIGHT)");
        MarbleRun x = after("b1;m1,0;m1,2;h0,9,9;g0,8,9;", 1);
        due.is("held", x.marble(0, 2), 20);
        due.is("LEFT led", x.lead(0, 0, 1), 9);
        due.is("RIGHT led", x.lead(0, 1, 7), 9);
        due.is("where it led, though there is no such piece", x.lead(0, 1, 8), 7);
        x.ticks(2);
        due.is("the held one goes the new way", x.marble(0, 2), 1);
        due.is("so does the other", x.marble(1, 2), 8);
        due.is("to where it leads already", x.lead(0, 1, 8), 8);
        due.is("is an act, too", x.count(6), 7);
    }

    private static void thrownAnew() {
        due.by("Thrown anew, of a WEIGHT (1 to 9): MARBLES that WAIT then (bits). BAD; STATE: it is in no TRAY.");
        String text = "b5;m3,0;m6,0;m3,9;m1,0;s0,8,9;";
        for (int weight = 1; weight <= 9; weight++) {
            MarbleRun x = after(text, 3);
            due.is("from LEFT, of " + weight, x.again(0, weight), 0b0101);
            due.is("from RIGHT, of " + weight, x.again(1, weight), 0b0111);
            due.is("WEIGHT", x.marble(1, 0), weight);
            due.is("START", x.marble(1, 1), 3);
            due.is("WAITS", x.marble(1, 2), 10);
            due.is("acts", x.count(6), 5);
            due.is("in the next TICK", x.ticks(1), weight >= 5 ? 3 : 0);
        }
        MarbleRun x = after(text, 3);
        for (int weight : new int[] {0, -1, 10, LEAST, MOST}) {
            due.is("WEIGHT " + weight, x.again(0, weight), Due.BAD);
            due.is("BAD ahead of STATE", x.again(2, weight), Due.BAD);
        }
        for (int m : new int[] {-1, 4, 6, LEAST, MOST}) {
            due.is("marble " + m, x.again(m, 1), Due.BAD);
        }
        due.is("it WAITS", x.again(2, 1), Due.STATE);
        due.is("it RUNS", after("b1;m1,0;g0,1,9;g0,8,9;", 1).again(0, 1), Due.STATE);
        due.is("it is HELD", after("b1;m1,0;h0,8,9;", 1).again(0, 1), Due.STATE);
        due.is("no RUN", new MarbleRun().again(0, 1), Due.BAD);
        due.is("no act", x.count(6), 3);
    }

    private static void whereMarblesAre() {
        due.by("Of a MARBLE: 0 WEIGHT, 1 START, 2 where it is (as AHEAD tells). BAD.");
        MarbleRun x = Due.told("b1;m1,0;m2,20;m3,1;m4,2;m5,3;m9,19;h0,1,8;" + CHAIN.substring(7));
        int[] weights = {1, 2, 3, 4, 5, 9};
        int[] starts = {0, 20, 1, 2, 3, 19};
        x.ticks(2);
        int[] where = {1, 10, 8, 10, 10, 10};
        for (int m = 0; m < 6; m++) {
            due.is("WEIGHT of " + m, x.marble(m, 0), weights[m]);
            due.is("START of " + m, x.marble(m, 1), starts[m]);
            due.is("where " + m + " is", x.marble(m, 2), where[m]);
            due.is("what -1", x.marble(m, -1), Due.BAD);
            due.is("what 3", x.marble(m, 3), Due.BAD);
            due.is("what least", x.marble(m, LEAST), Due.BAD);
            due.is("what most", x.marble(m, MOST), Due.BAD);
        }
        for (int m : new int[] {-1, 6, LEAST, MOST}) {
            for (int what = 0; what <= 2; what++) {
                due.is("marble " + m, x.marble(m, what), Due.BAD);
            }
        }
    }

    private static void whatOfPieces() {
        due.by("Of a PIECE: 0 POINT, 1 LEFT, 2 RIGHT, 3 the MARBLE it HOLDS (NONE), 4 WENT, 5 BURDEN, 6 MARBLES that RUN "
            + "on it (bits). BAD.");
        MarbleRun x = after("b1;m2,0;m3,1;m4,2;m5,9;m6,0;m7,0;g1,2,1;h1,3,7;s0,8,9;", 2);
        int[][] dues = {{1, 2, 1, Due.NONE, 4, 18, 0}, {1, 3, 7, Due.NONE, 2, 9, 0}, {0, 8, 9, Due.NONE, 1, 6, 0b000010}};
        for (int p = 0; p < 3; p++) {
            for (int what = 0; what <= 6; what++) {
                due.is("piece " + p + ", " + what, x.piece(p, what), dues[p][what]);
            }
            for (int what : new int[] {-1, 7, LEAST, MOST}) {
                due.is("what " + what, x.piece(p, what), Due.BAD);
            }
        }
        x.ticks(2);
        due.is("holds", x.piece(1, 3), 2);
        for (int p : new int[] {-1, 3, 8, LEAST, MOST}) {
            for (int what = 0; what <= 6; what++) {
                due.is("piece " + p, x.piece(p, what), Due.BAD);
            }
        }
    }

    private static void whatOfAll() {
        due.by("0 BAR, 1 which WAIT (bits), 2 RUN, 3 are HELD, 4 in THE LEFT TRAY, 5 in THE RIGHT one. BAD; STATE: no RUN "
            + "(ahead of BAD).");
        MarbleRun x = after("b7;m3,0;m7,0;m2,1;m9,20;m5,2;g0,1,2;h0,3,9;s1,8,9;l1,8,9;", 1);
        x.tip(0);
        x.ticks(2);
        int[] dues = {7, 0b01000, 0b10000, 0b00001, 0b00100, 0b00010};
        for (int what = 0; what <= 5; what++) {
            due.is("stand " + what, x.stand(what), dues[what]);
            due.is("no RUN", new MarbleRun().stand(what), Due.STATE);
        }
        for (int what : new int[] {-1, 6, LEAST, MOST}) {
            due.is("stand " + what, x.stand(what), Due.BAD);
            due.is("no RUN, ahead of BAD", new MarbleRun().stand(what), Due.STATE);
        }
        // On, and held by, the last of eight pieces.
        String last = "b1;m1,0;m1,0;" + CHAIN.substring(0, 49) + "h0,8,9;";
        due.is("RUN on piece 7", after(last, 7).stand(2), 3);
        due.is("how many RUN there", after(last, 7).count(4), 2);
        due.is("which RUN on it", after(last, 7).piece(7, 6), 3);
        due.is("HELD by piece 7", after("b1;m1,0;" + CHAIN.substring(0, 49) + "h0,8,9;", 8).stand(3), 1);
        due.is("all six wait", Due.told("b1;m1,0;m1,0;m1,0;m1,0;m1,0;m1,0;g0,8,9;").stand(1), 63);
    }
}
