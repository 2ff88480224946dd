/** The bounds of what is foretold (part 3 of the terms, promises 17 to 27), sentence by sentence. */
public final class ForetoldBoundsTest {
    private static final Due due = new Due("ForetoldBoundsTest");
    private static final int LEAST = Integer.MIN_VALUE, MOST = Integer.MAX_VALUE;
    private static final String CHAIN = "g0,1,1;g0,2,2;g0,3,3;g0,4,4;g0,5,5;g0,6,6;g0,7,7;g0,8,9;";

    public static void main(String[] args) {
        aheadOfMarbles();
        aheadIsWhatTicksBring();
        standsOfPieces();
        trays();
        when();
        rest();
        tipsOfTicks();
        tipsOfSeveral();
        orders();
        orderOfOneAndOfSix();
        lastOfAllOrders();
        ordersOneBehindTheOther();
        ordersAtEveryBar();
        leads();
        leadsOfSeveral();
        sets();
        setsOfNone();
        shares();
        sharesOfOne();
        sharesThatAreOver();
        turns();
        turnsOfEight();
        turnsOfTicks();
        turnsLater();
        due.end();
    }

    /** Numbers just beyond the least and the most, and far beyond them. */
    private static int[] beyond(int least, int most) {
        return new int[] {least - 1, most + 1, -1000, 1000, LEAST, MOST};
    }

    private static void aheadOfMarbles() {
        due.by("AHEAD by n TICKS (0 to 60) of a MARBLE: where it is (0 to 7 on a PIECE, 8, 9 in a TRAY, 10 it WAITS, 20 and "
            + "the PIECE: HELD)");
        MarbleRun x = Due.told("b1;m1,20;" + CHAIN);
        for (int n = 0; n <= 60; n++) {
            due.is("by " + n, x.ahead(0, n), n <= 20 ? 10 : n <= 27 ? n - 20 : 8);
        }
        x.tip(7);
        due.is("in THE RIGHT TRAY", x.ahead(0, 60), 9);
        for (int n : beyond(0, 60)) {
            due.is("by " + n, x.ahead(0, n), Due.BAD);
        }
        for (int m : beyond(0, 0)) {
            due.is("marble " + m, x.ahead(m, 0), Due.BAD);
        }
        for (int p = 0; p <= 7; p++) {
            MarbleRun y = Due.told("b1;m1,0;" + CHAIN.substring(0, 7 * p) + "h0,8,9;");
            due.is("ahead of the holder " + p, y.ahead(0, p), p == 0 ? 10 : p);
            due.is("HELD by " + p, y.ahead(0, p + 1), 20 + p);
            due.is("HELD for good by " + p, y.ahead(0, 60), 20 + p);
        }
        due.is("no RUN", new MarbleRun().ahead(0, 0), Due.BAD);
    }

    private static void aheadIsWhatTicksBring() {
        due.by("AHEAD by n TICKS .. STANDS behind n TICKS .. TRAYS behind n TICKS");
        String text = "b5;m3,0;m7,0;m2,1;m9,20;m5,2;m8,12;g0,1,2;h0,3,9;s1,4,9;l1,8,9;w0,8,9;";
        MarbleRun x = Due.told(text);
        MarbleRun y = Due.told(text);
        for (int n = 0; n <= 24; n++) {
            for (int m = 0; m < 6; m++) {
                due.is("marble " + m + " by " + n, x.ahead(m, n), y.marble(m, 2));
            }
            for (int p = 0; p < 5; p++) {
                due.is("POINT of " + p + " by " + n, x.stands(p, n, 0), y.piece(p, 0));
                due.is("who is HELD by " + p + " by " + n, x.stands(p, n, 1), y.piece(p, 3));
                due.is("WENT of " + p + " by " + n, x.stands(p, n, 2), y.piece(p, 4));
                due.is("BURDEN of " + p + " by " + n, x.stands(p, n, 3), y.piece(p, 5));
            }
            due.is("LEFT by " + n, x.trays(n, 0), y.stand(4));
            due.is("RIGHT by " + n, x.trays(n, 1), y.stand(5));
            if (y.count(3) % 6 == 5) {
                // No object is asked more than 512 times.
                x = Due.told(text);
                y = Due.told(text);
                y.ticks(n);
            }
            y.ticks(1);
        }
    }

    private static void standsOfPieces() {
        due.by("STANDS behind n TICKS (0 to 60) of a PIECE: POINT; the MARBLE it HOLDS (NONE); WENT; BURDEN");
        MarbleRun x = Due.told("b1;m1,0;m4,1;m7,2;h1,1,9;g0,8,9;");
        int[][] dues = {{1, Due.NONE, 0, 0}, {1, 0, 1, 1}, {1, Due.NONE, 2, 5}, {1, 2, 3, 12}};
        for (int n = 0; n <= 3; n++) {
            for (int what = 0; what <= 3; what++) {
                due.is("behind " + n + ", " + what, x.stands(0, n, what), dues[n][what]);
            }
        }
        for (int what = 0; what <= 3; what++) {
            due.is("behind 60, " + what, x.stands(0, 60, what), dues[3][what]);
            for (int n : beyond(0, 60)) {
                due.is("behind " + n, x.stands(0, n, what), Due.BAD);
            }
            for (int p : beyond(0, 1)) {
                due.is("piece " + p, x.stands(p, 0, what), Due.BAD);
            }
        }
        for (int what : beyond(0, 3)) {
            due.is("what " + what, x.stands(0, 0, what), Due.BAD);
        }
        due.is("POINT of the other", x.stands(1, 60, 0), 1);
        due.is("no RUN", new MarbleRun().stands(0, 0, 0), Due.BAD);
    }

    private static void trays() {
        due.by("TRAYS behind n TICKS (0 to 60): MARBLES (bits) in THE LEFT (0), THE RIGHT one (1)");
        MarbleRun x = Due.told("b1;m1,0;m1,1;m1,20;g0,8,9;");
        int[] ns = {0, 1, 2, 20, 21, 60};
        int[] left = {0, 1, 1, 1, 5, 5};
        int[] right = {0, 0, 2, 2, 2, 2};
        for (int k = 0; k < ns.length; k++) {
            due.is("LEFT behind " + ns[k], x.trays(ns[k], 0), left[k]);
            due.is("RIGHT behind " + ns[k], x.trays(ns[k], 1), right[k]);
        }
        for (int n : beyond(0, 60)) {
            due.is("behind " + n, x.trays(n, 0), Due.BAD);
            due.is("no RUN, ahead of BAD", new MarbleRun().trays(n, 0), Due.STATE);
        }
        for (int side : beyond(0, 1)) {
            due.is("side " + side, x.trays(0, side), Due.BAD);
            due.is("no RUN, ahead of BAD", new MarbleRun().trays(0, side), Due.STATE);
        }
        due.is("no RUN", new MarbleRun().trays(0, 0), Due.STATE);
    }

    private static void when() {
        due.by("WHEN a MARBLE is in a TRAY: behind how many TICKS (0 to 60) first; NONE");
        MarbleRun x = Due.told("b1;m1,0;m1,20;g1,8,9;");
        due.is("behind one", x.when(0), 1);
        due.is("behind 21", x.when(1), 21);
        x.ticks(1);
        due.is("it is there: behind none", x.when(0), 0);
        due.is("behind 20 then", x.when(1), 20);
        due.is("no later start, no longer way", Due.told("b1;m1,20;" + CHAIN).when(0), 28);
        due.is("kept for good", Due.told("b1;m1,0;h0,8,9;").when(0), Due.NONE);
        x = Due.told("b1;m1,0;m1,20;h0,8,9;");
        due.is("kept till the next comes", x.when(0), 21);
        due.is("and that one, too", x.when(1), 21);
        for (int m : beyond(0, 1)) {
            due.is("marble " + m, x.when(m), Due.BAD);
        }
        due.is("no RUN", new MarbleRun().when(0), Due.BAD);
    }

    private static void rest() {
        due.by("REST: behind how many TICKS (0 to 60) none WAITS or RUNS first; NONE");
        due.is("one that WAITS", Due.told("b1;m1,20;g0,8,9;").rest(), 21);
        due.is("one that RUNS", Due.told("b1;m1,20;" + CHAIN).rest(), 28);
        MarbleRun x = Due.told("b1;m1,0;m1,3;h0,1,8;h0,8,9;");
        due.is("HELD is at rest", x.rest(), 5);
        x.ticks(4);
        due.is("it RUNS", x.rest(), 1);
        x.ticks(1);
        due.is("at rest", x.rest(), 0);
        x.again(1, 1);
        due.is("thrown anew", x.rest(), 1);
        due.is("no RUN", new MarbleRun().rest(), Due.STATE);
    }

    private static void tipsOfTicks() {
        due.by("TIP for n TICKS (1 to 40)");
        MarbleRun x = Due.told("b1;m1,1;g0,8,9;");
        due.is("for 1: which", x.tips(1, 0), 0);
        due.is("for 1: how many", x.tips(1, 1), 0);
        due.is("for 2: which", x.tips(2, 0), 1);
        due.is("for 2: how many", x.tips(2, 1), 1);
        due.is("for 40: which", x.tips(40, 0), 1);
        due.is("for 40: how many", x.tips(40, 1), 1);
        due.is("for 28", Due.told("b1;m1,20;" + CHAIN).tips(28, 0), 128);
        due.is("for 27", Due.told("b1;m1,20;" + CHAIN).tips(27, 0), 0);
        for (int n : beyond(1, 40)) {
            due.is("for " + n, x.tips(n, 0), Due.BAD);
            due.is("no RUN, ahead of BAD", new MarbleRun().tips(n, 0), Due.STATE);
        }
        for (int what : beyond(0, 1)) {
            due.is("what " + what, x.tips(1, what), Due.BAD);
            due.is("no RUN, ahead of BAD", new MarbleRun().tips(1, what), Due.STATE);
        }
    }

    private static void tipsOfSeveral() {
        due.by("most MARBLES are in THE RIGHT TRAY behind them, of several the fewest PIECES, then the least bits: which; "
            + "how many");
        due.is("none, if none helps", Due.told("b1;m1,0;g0,8,8;l1,8,9;").tips(5, 0), 0);
        due.is("none, if it is best as it is", Due.told("b1;m1,0;g0,9,9;l1,8,9;").tips(5, 0), 0);
        // Gate 3 alone, or gates 0 and 2 (bits 5, fewer than 8), bring it.
        MarbleRun x = Due.told("b1;m1,0;g0,3,1;g0,2,2;g0,8,9;g0,8,9;");
        due.is("the fewest", x.tips(9, 0), 8);
        // Gate 0 or gate 1 alone brings it.
        x = Due.told("b1;m1,0;g0,1,2;g0,8,9;g1,8,9;");
        due.is("the least bits", x.tips(9, 0), 1);
        x = Due.told("b1;m1,0;m1,0;g0,1,2;g0,8,9;l0,8,9;s0,8,9;");
        due.is("two for two", x.tips(9, 0), 6);
        due.is("both come", x.tips(9, 1), 2);
        x = Due.told("b1;m1,0;" + "g0,8,1;g0,8,2;g0,8,3;g0,8,4;g0,8,5;g0,8,6;g0,8,7;g0,8,9;");
        due.is("all eight", x.tips(9, 0), 255);
        due.is("for one", x.tips(9, 1), 1);
        due.is("too early", x.tips(7, 0), 0);
        x = Due.told("b1;m1,0;m1,0;m1,0;m1,0;m1,0;m1,0;s0,8,9;");
        due.is("a sill needs none", x.tips(1, 0), 0);
        due.is("all six", x.tips(1, 1), 6);
        x.ticks(1);
        due.is("those that are there count", x.tips(1, 1), 6);
    }

    private static void orders() {
        due.by("ORDER for n TICKS (1 to 40) .. how much (k = -1), the k-th (0 on; NONE: not so many)");
        MarbleRun x = Due.told("b1;m2,0;m9,0;m5,20;g0,8,9;");
        due.is("for 1", x.order(1, -1), 9);
        due.is("for 40", x.order(40, -1), 9);
        int[] first = {0, 1, 2};
        for (int k = 0; k < 3; k++) {
            due.is("the k-th " + k, x.order(40, k), first[k]);
        }
        for (int k : new int[] {3, 4, 5, 6, 7, 720, MOST}) {
            due.is("not so many as " + k, x.order(40, k), Due.NONE);
        }
        due.is("k -2", x.order(40, -2), Due.BAD);
        due.is("k least", x.order(40, LEAST), Due.BAD);
        for (int n : beyond(1, 40)) {
            for (int k : new int[] {-2, -1, 0, 3, MOST}) {
                due.is("for " + n, x.order(n, k), Due.BAD);
                due.is("no RUN, ahead of BAD", new MarbleRun().order(n, k), Due.STATE);
            }
        }
        due.is("no RUN", new MarbleRun().order(1, 0), Due.STATE);
        due.is("no RUN, ahead of NONE", new MarbleRun().order(1, 9), Due.STATE);
        x = Due.told("b1;m2,1;m9,0;g0,8,9;");
        due.is("by the first tick nothing is there", x.order(1, -1), 0);
        due.is("then the first order", x.order(1, 0), 0);
        due.is("by the second", x.order(2, -1), 9);
        due.is("that of marble 1", x.order(2, 0), 1);
    }

    private static void orderOfOneAndOfSix() {
        due.by("of all orders in which WEIGHTS of MARBLES could be given to MARBLES now .. of several the first (by numbers)");
        MarbleRun x = Due.told("b1;m4,0;s0,8,9;");
        due.is("of one: how much", x.order(1, -1), 4);
        due.is("of one: the 0-th", x.order(1, 0), 0);
        due.is("of one: the 1st", x.order(1, 1), Due.NONE);
        // Marbles 1, 3 and 5 come into THE RIGHT TRAY: they should have the WEIGHTS 9, 8 and 7.
        x = Due.told("b1;m9,0;m1,0;m8,0;m2,0;m7,0;m3,0;g0,8,9;");
        int[] best = {1, 0, 3, 2, 5, 4};
        due.is("of six: how much", x.order(1, -1), 24);
        for (int k = 0; k < 6; k++) {
            due.is("of six: the k-th " + k, x.order(1, k), best[k]);
        }
        due.is("of six: the 6th", x.order(1, 6), Due.NONE);
        // Of equal WEIGHTS the ones told first go first.
        x = Due.told("b5;m1,0;m9,0;m9,0;m1,0;m9,0;m1,0;g0,8,9;");
        int[] first = {0, 1, 3, 2, 5, 4};
        due.is("of equals: how much", x.order(1, -1), 27);
        for (int k = 0; k < 6; k++) {
            due.is("of equals: the k-th " + k, x.order(1, k), first[k]);
        }
        // But one is there in time, and only a WEIGHT of 9 passes: that of the last goes first, late among the orders.
        x = Due.told("b9;m1,1;m2,3;m3,4;m4,5;m5,6;m9,20;s0,8,9;");
        due.is("early enough", x.order(2, -1), 9);
        due.is("the last one's weight", x.order(2, 0), 5);
        due.is("then the first ones'", x.order(2, 1), 0);
        due.is("and the one before the last", x.order(2, 5), 4);
    }

    /** Its WEIGHTS are told so that no other order brings as much as the last one of all. */
    private static void lastOfAllOrders() {
        due.by("of all orders in which WEIGHTS of MARBLES could be given to MARBLES now");
        String text = "b5;m7,5;m2,6;m3,7;m6,4;m1,1;m9,7;h0,2,3;s0,3,3;w1,5,3;s1,5,4;s0,5,6;g1,7,9;";
        MarbleRun x = Due.told(text);
        due.is("how much", x.order(40, -1), 18);
        for (int k = 0; k < 6; k++) {
            due.is("the k-th " + k, x.order(40, k), 5 - k);
        }
    }

    /** Of four marbles over a gate the second and the fourth come right; marble 0 and marble 3 weigh most. */
    private static void ordersOneBehindTheOther() {
        due.by("that by which WEIGHT in THE RIGHT TRAY is most behind them, of several the first (by numbers)");
        MarbleRun x = Due.told("b1;m9,0;m2,0;m5,1;m7,3;s0,8,1;g0,8,9;");
        int[] best = {1, 0, 2, 3};
        due.is("much", x.order(40, -1), 16);
        due.is("little, though much was before", x.order(2, -1), 9);
        for (int k = 0; k < 4; k++) {
            due.is("much: not by the first order, " + k, x.order(40, k), best[k]);
            due.is("little: not by the first order, " + k, x.order(2, k), best[k]);
            due.is("none: by the first order, " + k, x.order(1, k), k);
        }
        due.is("none", x.order(1, -1), 0);
        x.tips(40, 0);
        x.leads(0, 40, 0);
        due.is("none behind other questions", x.order(1, 0), 0);
        due.is("much again", x.order(40, -1), 16);
    }

    /** A sill parts four WEIGHTS by every BAR, two scales by whether they are even: all orders, as the model has them. */
    private static void ordersAtEveryBar() {
        due.by("of all orders in which WEIGHTS of MARBLES could be given to MARBLES now .. of several the first (by numbers)");
        String[] marbles = {"m4,0;m5,1;m6,2;m7,3;", "m9,0;m1,0;m8,0;m2,0;", "m3,2;m3,1;m4,0;m8,0;m5,0;", "m6,0;m2,0;m4,1;"};
        String[] pieces = {"s0,1,2;w0,8,9;w0,9,8;", "w0,1,2;s0,8,9;s0,9,8;", "h0,1,1;s0,8,2;w0,8,9;", "g1,1,2;l0,8,9;w0,8,9;"};
        for (int bar = 1; bar <= 9; bar++) {
            for (int k = 0; k < marbles.length; k++) {
                for (String below : pieces) {
                    sameOrder("b" + bar + ";" + marbles[k] + below);
                }
            }
        }
    }

    private static void sameOrder(String text) {
        MarbleRun x = Due.told(text);
        Model model = new Model();
        for (int i = 0; i < text.length(); i++) {
            model.call("feed", text.charAt(i));
        }
        model.call("run");
        for (int ticks = 0; ticks <= 2; ticks += 2) {
            for (int k = -1; k <= 5; k++) {
                due.is(text + " " + ticks + ", the k-th " + k, x.order(20, k), model.call("order", 20, k));
            }
            x.ticks(2);
            model.call("ticks", 2);
        }
    }

    private static void leads() {
        due.by("LEAD for a PIECE, n TICKS (1 to 40): whither its RIGHT side should lead from now on (from its number and 1 on "
            + "to 9)");
        MarbleRun x = Due.told("b1;m1,1;g1,8,8;");
        due.is("for 1: whither", x.leads(0, 1, 0), 1);
        due.is("for 1: how many", x.leads(0, 1, 1), 0);
        due.is("for 2: whither", x.leads(0, 2, 0), 9);
        due.is("for 2: how many", x.leads(0, 2, 1), 1);
        due.is("for 40", x.leads(0, 40, 0), 9);
        for (int n : beyond(1, 40)) {
            due.is("for " + n, x.leads(0, n, 0), Due.BAD);
        }
        for (int what : beyond(0, 1)) {
            due.is("what " + what, x.leads(0, 1, what), Due.BAD);
        }
        for (int p : beyond(0, 0)) {
            due.is("piece " + p, x.leads(p, 1, 0), Due.BAD);
        }
        due.is("no RUN", new MarbleRun().leads(0, 1, 0), Due.BAD);
        x = Due.told("b1;m1,0;" + CHAIN);
        for (int p = 0; p <= 7; p++) {
            due.is("the least of all for " + p, x.leads(p, 1, 0), p + 1);
        }
        x.tip(7);
        due.is("the last piece: 9", x.leads(7, 40, 0), 9);
        due.is("and one comes", x.leads(7, 40, 1), 1);
    }

    private static void leadsOfSeveral() {
        due.by("by which most are in THE RIGHT TRAY behind them, of several the least: whither; how many");
        MarbleRun x = Due.told("b1;m1,0;g1,8,8;g0,8,9;g1,8,9;g1,8,9;");
        due.is("2, 3 and 9 bring one", x.leads(0, 2, 0), 2);
        due.is("one", x.leads(0, 2, 1), 1);
        due.is("in time", x.leads(0, 1, 0), 9);
        x = Due.told("b1;m1,0;m1,0;m1,0;h0,9,8;g1,8,9;");
        due.is("RIGHT of a holder", x.leads(0, 2, 0), 1);
        due.is("two", x.leads(0, 2, 1), 2);
        due.is("nothing is led", x.piece(0, 2), 8);
    }

    private static void sets() {
        due.by("SETS of v (0 to 54): sets of MARBLES that are in no TRAY of WEIGHT v together: how many; MARBLES (bits) that are "
            + "in all of these (none: 0); in any");
        MarbleRun x = Due.told("b1;m9,0;m9,0;m9,0;m9,0;m9,0;m9,0;h0,8,9;");
        int[] many = {1, 6, 15, 20, 15, 6, 1};
        for (int k = 0; k <= 6; k++) {
            due.is("sets of " + 9 * k, x.sets(9 * k, 0), many[k]);
            due.is("in all of " + 9 * k, x.sets(9 * k, 1), k == 6 ? 63 : 0);
            due.is("in any of " + 9 * k, x.sets(9 * k, 2), k == 0 ? 0 : 63);
        }
        for (int v : new int[] {1, 8, 10, 53}) {
            for (int what = 0; what <= 2; what++) {
                due.is("none of " + v, x.sets(v, what), 0);
            }
        }
        for (int v : beyond(0, 54)) {
            due.is("sets of " + v, x.sets(v, 0), Due.BAD);
            due.is("no RUN, ahead of BAD", new MarbleRun().sets(v, 0), Due.STATE);
        }
        for (int what : beyond(0, 2)) {
            due.is("what " + what, x.sets(0, what), Due.BAD);
            due.is("no RUN, ahead of BAD", new MarbleRun().sets(0, what), Due.STATE);
        }
        due.is("no RUN", new MarbleRun().sets(0, 0), Due.STATE);
    }

    private static void setsOfNone() {
        due.by("MARBLES that are in no TRAY");
        MarbleRun x = Due.told("b5;m4,0;m6,0;m4,1;m4,20;m4,2;s0,8,1;h0,8,9;");
        x.ticks(1);
        due.is("one is in a TRAY, one RUNS, three WAIT", x.sets(4, 0), 3);
        x.ticks(1);
        due.is("one is HELD", x.sets(6, 1), 2);
        due.is("two WAIT", x.sets(4, 2), 0b11000);
        due.is("all together", x.sets(14, 1), 0b11010);
        x.ticks(24);
        due.is("only the one HELD", x.sets(6, 2), 2);
        due.is("none of 4", x.sets(4, 0), 0);
        due.is("the empty set", x.sets(0, 0), 1);
        due.is("has none", x.sets(0, 1), 0);
        x.again(0, 9);
        due.is("thrown anew", x.sets(15, 1), 3);
        x = Due.told("b1;m4,0;m4,0;m4,0;g0,8,9;");
        x.ticks(1);
        due.is("neither those in THE LEFT nor those in THE RIGHT one", x.sets(4, 0), 0);
        due.is("none of 8, either", x.sets(8, 0), 0);
    }

    private static void shares() {
        due.by("SHARE of n (0 to 999): each PIECE gets as many as n times WENT by all WENT (cut) .. (0, if none did)");
        MarbleRun x = Due.told("b1;m1,0;m1,0;m1,0;g0,1,8;g0,8,9;g0,8,9;");
        for (int n : new int[] {0, 1, 999}) {
            due.is("none went, of " + n, x.share(0, n), 0);
        }
        x.ticks(2);
        // 3 went over the first, 2 over the second, none over the third.
        int[] ns = {0, 1, 4, 5, 6, 7, 999};
        int[] firsts = {0, 1, 3, 3, 4, 5, 600};
        int[] seconds = {0, 0, 1, 2, 2, 2, 399};
        for (int k = 0; k < ns.length; k++) {
            due.is("0 of " + ns[k], x.share(0, ns[k]), firsts[k]);
            due.is("1 of " + ns[k], x.share(1, ns[k]), seconds[k]);
            due.is("2 of " + ns[k], x.share(2, ns[k]), 0);
        }
        for (int n : new int[] {-1, 1000, LEAST, MOST}) {
            due.is("of " + n, x.share(0, n), Due.BAD);
        }
        for (int p : beyond(0, 2)) {
            due.is("piece " + p, x.share(p, 1), Due.BAD);
        }
        due.is("no RUN", new MarbleRun().share(0, 0), Due.BAD);
    }

    private static void sharesOfOne() {
        due.by("each PIECE gets as many as n times WENT by all WENT");
        MarbleRun x = Due.told("b1;m1,0;g0,2,9;s0,8,9;s0,8,9;");
        x.ticks(1);
        due.is("all WENT", x.count(5), 1);
        for (int n : new int[] {0, 1, 2, 998, 999}) {
            due.is("all of " + n, x.share(0, n), n);
            due.is("none of " + n + " to the second", x.share(1, n), 0);
            due.is("none of " + n + " to the third", x.share(2, n), 0);
        }
    }

    private static void sharesThatAreOver() {
        due.by("what is over 1 each to the first ones over which any went");
        // One went over the pieces 0, 2, 4 and 6 each.
        MarbleRun x = Due.told("b1;m1,0;g0,2,2;s0,8,9;g0,4,4;s0,8,9;g0,6,6;s0,8,9;g0,8,9;s0,8,9;");
        x.ticks(4);
        for (int n = 0; n <= 12; n++) {
            for (int p = 0; p < 8; p++) {
                int part = p % 2 == 1 ? 0 : n / 4 + (p / 2 < n % 4 ? 1 : 0);
                due.is(p + " of " + n, x.share(p, n), part);
            }
        }
        for (int n : new int[] {996, 997, 998, 999}) {
            int sum = 0;
            for (int p = 0; p < 8; p++) {
                sum += x.share(p, n);
            }
            due.is("all of " + n, sum, n);
        }
    }

    private static void turns() {
        due.by("TURNS of two, n in all (0 to 4) .. the one wants it great, the other little: what comes of it");
        MarbleRun x = Due.told("b1;m1,0;g0,8,9;");
        int[] one = {-1, 1, -1, 1, -1};
        // Two gates in a row: whoever tips last has it his way.
        MarbleRun y = Due.told("b1;m1,0;g0,8,1;g1,8,9;");
        int[] two = {-1, 1, -1, 1, -1};
        // No tip has any effect.
        MarbleRun z = Due.told("b5;m5,0;m4,0;m6,0;s0,8,9;w0,9,8;h0,8,9;");
        for (int n = 0; n <= 4; n++) {
            due.is("one gate, " + n, x.byTurns(n, 1), one[n]);
            due.is("two gates, " + n, y.byTurns(n, 2), two[n]);
            due.is("a sill, " + n, z.byTurns(n, 1), 1);
        }
        // Two marbles over two gates: each tip wins one of them, and the other can but undo it.
        MarbleRun w = Due.told("b1;m1,0;m1,0;g0,1,2;g0,8,9;g0,8,9;");
        int[] each = {-2, 0, -2, 0, -2};
        for (int n = 0; n <= 4; n++) {
            due.is("two marbles, " + n, w.byTurns(n, 2), each[n]);
        }
        // It lies right as it is: the one does nothing, but the other turns it.
        MarbleRun v = Due.told("b1;m1,0;g1,8,9;");
        int[] kept = {1, 1, -1, 1, -1};
        for (int n = 0; n <= 4; n++) {
            due.is("as it should be, " + n, v.byTurns(n, 1), kept[n]);
            due.is("asked of an object of its own, " + n, Due.told("b1;m1,0;g1,8,9;").byTurns(n, 1), kept[n]);
        }
        for (int n : beyond(0, 4)) {
            due.is("n " + n, x.byTurns(n, 1), Due.BAD);
            due.is("no RUN, ahead of BAD", new MarbleRun().byTurns(n, 1), Due.STATE);
        }
        due.is("no RUN", new MarbleRun().byTurns(0, 1), Due.STATE);
        MarbleRun all = Due.told("b1;m1,0;m1,0;m1,0;m1,0;m1,0;m1,0;h0,8,8;");
        due.is("six in THE LEFT", all.byTurns(4, 20), -6);
        all = Due.told("b1;m1,0;m1,0;m1,0;m1,0;m1,0;m1,0;h0,9,9;");
        due.is("six in THE RIGHT", all.byTurns(4, 20), 6);
    }

    /** Eight gates, each of which must be tipped for the marble to come right; the eighth decides alone in the other run. */
    private static void turnsOfEight() {
        due.by("the one tips a PIECE (POINT is the other one), or does nothing .. PIECES .. 8 at most");
        int[] last = {-1, 1, -1, 1, -1};
        for (int n = 0; n <= 4; n++) {
            MarbleRun x = Due.told("b1;m1,0;" + CHAIN);
            due.is("the eighth of eight, " + n, x.byTurns(n, 8), last[n]);
            due.is("not there yet, " + n, x.byTurns(n, 7), 0);
            MarbleRun all = Due.told("b1;m1,0;g0,8,1;g0,8,2;g0,8,3;g0,8,4;g0,8,5;g0,8,6;g0,8,7;g0,8,9;");
            due.is("all of eight, " + n, all.byTurns(n, 20), -1);
            MarbleRun right = Due.told("b1;m1,0;g0,9,1;g0,9,2;g0,9,3;g0,9,4;g0,9,5;g0,9,6;g0,9,7;g0,9,8;");
            due.is("none of eight, " + n, right.byTurns(n, 20), 1);
        }
    }

    private static void turnsOfTicks() {
        due.by("m TICKS (1 to 20)");
        MarbleRun x = Due.told("b1;m1,0;m1,1;m1,18;m1,19;m1,20;s0,8,9;");
        int[] ms = {1, 2, 18, 19, 20};
        int[] worths = {1, 2, 2, 3, 4};
        for (int k = 0; k < ms.length; k++) {
            for (int n = 0; n <= 4; n++) {
                due.is("m " + ms[k], x.byTurns(n, ms[k]), worths[k]);
            }
        }
        for (int m : beyond(1, 20)) {
            due.is("m " + m, x.byTurns(0, m), Due.BAD);
            due.is("no RUN, ahead of BAD", new MarbleRun().byTurns(0, m), Due.STATE);
        }
    }

    /** Three lie in THE LEFT TRAY already, when the fourth is yet to come over the gate. */
    private static void turnsLater() {
        due.by("how many are in THE RIGHT TRAY less how many are in THE LEFT");
        MarbleRun x = Due.told("b5;m1,0;m1,0;m9,0;m9,20;s0,8,1;g0,8,9;");
        x.ticks(2);
        due.is("in THE LEFT TRAY", x.stand(4), 7);
        int[] worths = {-2, -2, -4, -2, -4};
        for (int n = 0; n <= 4; n++) {
            due.is("the fourth comes, " + n, x.byTurns(n, 20), worths[n]);
            due.is("not yet, " + n, x.byTurns(n, 19), -3);
        }
        x.again(0, 9);
        due.is("one is thrown anew", x.byTurns(0, 2), -1);
    }
}
