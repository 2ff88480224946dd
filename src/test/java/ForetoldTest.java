/** Promises 17 to 31: what is foretold. */
public final class ForetoldTest {
    private static final Due due = new Due("ForetoldTest");
    private static final String HOLDER = "b5;m4,0;m2,1;h0,1,9;g0,8,9;";

    public static void main(String[] args) {
        ahead();
        stands();
        trays();
        when();
        rest();
        tips();
        order();
        leads();
        sets();
        share();
        byTurns();
        who();
        whoOfOneThatHolds();
        weights();
        jam();
        jamOfOneThatHolds();
        drawn();
        changesNothing();
        due.end();
    }

    private static void ahead() {
        MarbleRun x = Due.told(HOLDER);
        int[] first = {10, 20, 1, 8, 8};
        int[] second = {10, 10, 9, 9, 9};
        for (int n = 0; n < 5; n++) {
            due.is("0 ahead by " + n, x.ahead(0, n), first[n]);
            due.is("1 ahead by " + n, x.ahead(1, n), second[n]);
        }
        due.is("by 60", x.ahead(0, 60), 8);
        due.is("by 61", x.ahead(0, 61), Due.BAD);
        due.is("by -1", x.ahead(0, -1), Due.BAD);
        due.is("no such marble", x.ahead(2, 0), Due.BAD);
        due.is("marble below", x.ahead(-1, 0), Due.BAD);
    }

    private static void stands() {
        MarbleRun x = Due.told(HOLDER);
        due.is("holds none", x.stands(0, 0, 1), Due.NONE);
        due.is("holds", x.stands(0, 1, 1), 0);
        due.is("holds none then", x.stands(0, 2, 1), Due.NONE);
        due.is("WENT", x.stands(0, 2, 2), 2);
        due.is("BURDEN", x.stands(0, 2, 3), 6);
        due.is("POINT", x.stands(1, 2, 0), 0);
        due.is("POINT then", x.stands(1, 3, 0), 1);
        due.is("POINT at rest", x.stands(1, 60, 0), 1);
        due.is("by 61", x.stands(0, 61, 0), Due.BAD);
        due.is("by -1", x.stands(0, -1, 0), Due.BAD);
        due.is("what above", x.stands(0, 0, 4), Due.BAD);
        due.is("what below", x.stands(0, 0, -1), Due.BAD);
        due.is("no such piece", x.stands(2, 0, 0), Due.BAD);
        due.is("piece below", x.stands(-1, 0, 0), Due.BAD);
    }

    private static void trays() {
        MarbleRun x = Due.told(HOLDER);
        due.is("right by 0", x.trays(0, 1), 0);
        due.is("right by 1", x.trays(1, 1), 0);
        due.is("right by 2", x.trays(2, 1), 2);
        due.is("left by 2", x.trays(2, 0), 0);
        due.is("left by 3", x.trays(3, 0), 1);
        due.is("left by 60", x.trays(60, 0), 1);
        due.is("by 61", x.trays(61, 0), Due.BAD);
        due.is("by -1", x.trays(-1, 0), Due.BAD);
        due.is("side above", x.trays(0, 2), Due.BAD);
        due.is("side below", x.trays(0, -1), Due.BAD);
        due.is("no RUN ahead of BAD", new MarbleRun().trays(-1, 0), Due.STATE);
    }

    private static void when() {
        MarbleRun x = Due.told(HOLDER);
        due.is("0", x.when(0), 3);
        due.is("1", x.when(1), 2);
        due.is("no such marble", x.when(2), Due.BAD);
        due.is("marble below", x.when(-1), Due.BAD);
        x.ticks(2);
        due.is("0 then", x.when(0), 1);
        due.is("1 is there", x.when(1), 0);
        due.is("kept for good", Due.told("b5;m4,0;h0,8,9;").when(0), Due.NONE);
        due.is("late", Due.told("b5;m4,20;g0,1,1;g0,2,2;g0,3,3;g0,4,4;g0,5,5;g0,6,6;g0,7,7;g0,8,9;").when(0), 28);
    }

    private static void rest() {
        due.is("no RUN", new MarbleRun().rest(), Due.STATE);
        MarbleRun x = Due.told(HOLDER);
        due.is("from the start", x.rest(), 3);
        x.ticks(3);
        due.is("at rest", x.rest(), 0);
        x.again(0, 1);
        due.is("anew", x.rest(), 1);
        due.is("held is at rest", Due.told("b5;m4,7;h0,8,9;").rest(), 8);
    }

    private static void tips() {
        MarbleRun x = Due.told("b5;m1,0;m1,0;g0,8,9;");
        due.is("as good as it is", x.tips(1, 0), 0);
        due.is("how many", x.tips(1, 1), 1);
        x = Due.told("b5;m1,0;g0,1,2;g0,8,9;g1,8,9;");
        due.is("least bits", x.tips(2, 0), 1);
        due.is("one", x.tips(2, 1), 1);
        due.is("too early", x.tips(1, 0), 0);
        due.is("none", x.tips(1, 1), 0);
        x = Due.told("b5;m1,0;g0,2,1;g0,8,9;g0,8,9;");
        due.is("fewest pieces ahead of least bits", x.tips(5, 0), 4);
        x = Due.told("b5;m1,0;g0,8,1;g0,8,9;");
        due.is("both", x.tips(5, 0), 3);
        due.is("both bring one", x.tips(5, 1), 1);
        due.is("n 0", x.tips(0, 0), Due.BAD);
        due.is("n 40", x.tips(40, 0), 3);
        due.is("n 41", x.tips(41, 0), Due.BAD);
        due.is("what above", x.tips(1, 2), Due.BAD);
        due.is("what below", x.tips(1, -1), Due.BAD);
        due.is("no RUN ahead of BAD", new MarbleRun().tips(0, 0), Due.STATE);
    }

    private static void order() {
        MarbleRun x = Due.told("b5;m7,0;m3,0;g0,8,9;");
        due.is("how much", x.order(1, -1), 7);
        due.is("the first", x.order(1, 0), 1);
        due.is("the second", x.order(1, 1), 0);
        due.is("not so many", x.order(1, 2), Due.NONE);
        due.is("far from so many", x.order(1, Integer.MAX_VALUE), Due.NONE);
        due.is("k below", x.order(1, -2), Due.BAD);
        due.is("n 0", x.order(0, 0), Due.BAD);
        due.is("n 41", x.order(41, 0), Due.BAD);
        due.is("BAD ahead of NONE", x.order(41, 2), Due.BAD);
        due.is("no RUN ahead of BAD", new MarbleRun().order(0, -2), Due.STATE);
        x = Due.told("b5;m3,0;m7,0;g1,8,9;");
        x.ticks(1);
        due.is("in the tray already", x.order(1, -1), 7);
        due.is("its weight", x.order(1, 0), 1);
        x = Due.told("b5;m4,0;m4,0;m4,0;m2,0;g1,8,9;");
        int[] equals = {0, 1, 2, 3};
        for (int k = 0; k < 4; k++) {
            due.is("the first of several, " + k, x.order(3, k), equals[k]);
        }
        x = Due.told("b5;m9,0;m1,0;m4,0;m8,0;g0,8,9;");
        int[] best = {1, 0, 2, 3};
        due.is("most", x.order(3, -1), 17);
        for (int k = 0; k < 4; k++) {
            due.is("the first of the best, " + k, x.order(3, k), best[k]);
        }
    }

    private static void leads() {
        MarbleRun x = Due.told("b5;m1,0;g1,8,8;");
        due.is("whither", x.leads(0, 1, 0), 9);
        due.is("how many", x.leads(0, 1, 1), 1);
        x = Due.told("b5;m1,0;g0,9,8;");
        due.is("the least", x.leads(0, 1, 0), 1);
        due.is("how many anyhow", x.leads(0, 1, 1), 1);
        x = Due.told("b5;m1,0;g1,8,8;g0,8,9;g1,8,9;");
        due.is("by another piece", x.leads(0, 2, 0), 2);
        due.is("too early for another", x.leads(0, 1, 0), 9);
        due.is("n 0", x.leads(0, 0, 0), Due.BAD);
        due.is("n 41", x.leads(0, 41, 0), Due.BAD);
        due.is("what above", x.leads(0, 1, 2), Due.BAD);
        due.is("what below", x.leads(0, 1, -1), Due.BAD);
        x.tips(40, 0);
        x.order(40, 0);
        due.is("whatever was asked before", x.leads(0, 2, 0), 2);
        due.is("and how many", x.leads(0, 2, 1), 1);
        due.is("no such piece", x.leads(3, 1, 0), Due.BAD);
        due.is("piece below", x.leads(-1, 1, 0), Due.BAD);
    }

    private static void sets() {
        MarbleRun x = Due.told("b5;m3,1;m7,1;m5,1;m9,0;g0,8,9;");
        int[][] dues = {{12, 2, 0, 15}, {10, 1, 3, 3}, {24, 1, 15, 15}, {25, 0, 0, 0}, {0, 1, 0, 0}, {54, 0, 0, 0},
            {14, 1, 12, 12}, {8, 1, 5, 5}, {17, 1, 13, 13}};
        for (int[] d : dues) {
            for (int what = 0; what < 3; what++) {
                due.is("sets of " + d[0] + ", " + what, x.sets(d[0], what), d[what + 1]);
            }
        }
        x.ticks(1);
        due.is("without one in a tray", x.sets(12, 0), 1);
        due.is("in all", x.sets(12, 1), 6);
        x.ticks(1);
        due.is("all are in trays", x.sets(0, 0), 1);
        due.is("none of 3", x.sets(3, 0), 0);
        due.is("v below", x.sets(-1, 0), Due.BAD);
        due.is("v above", x.sets(55, 0), Due.BAD);
        due.is("what above", x.sets(0, 3), Due.BAD);
        due.is("what below", x.sets(0, -1), Due.BAD);
        due.is("no RUN ahead of BAD", new MarbleRun().sets(-1, 0), Due.STATE);
        x = Due.told("b5;m2,0;m2,0;m4,9;h0,8,9;");
        due.is("two ways", x.sets(4, 0), 2);
        due.is("in none of both", x.sets(4, 1), 0);
        due.is("in any", x.sets(4, 2), 7);
        due.is("6 in two ways", x.sets(6, 0), 2);
        due.is("the heavy one in both", x.sets(6, 1), 4);
    }

    private static void share() {
        MarbleRun x = Due.told("b5;m1,0;m1,0;g0,2,3;s0,8,9;s0,8,9;s0,8,9;");
        due.is("none went", x.share(0, 7), 0);
        x.ticks(2);
        int[] parts = {4, 0, 2, 1};
        for (int p = 0; p < 4; p++) {
            due.is("part " + p, x.share(p, 7), parts[p]);
            due.is("of none " + p, x.share(p, 0), 0);
        }
        due.is("of 1", x.share(0, 1), 1);
        due.is("of 1, last", x.share(3, 1), 0);
        due.is("of 999", x.share(0, 999), 500);
        due.is("of 999, next", x.share(2, 999), 250);
        due.is("of 999, last", x.share(3, 999), 249);
        MarbleRun one = Due.told("b5;m1,0;g0,8,9;g0,8,9;");
        one.ticks(1);
        due.is("one went over one", one.share(0, 999), 999);
        due.is("none over the other", one.share(1, 999), 0);
        due.is("n below", x.share(0, -1), Due.BAD);
        due.is("n above", x.share(0, 1000), Due.BAD);
        due.is("no such piece", x.share(4, 1), Due.BAD);
        due.is("piece below", x.share(-1, 1), Due.BAD);
    }

    private static void byTurns() {
        MarbleRun x = Due.told("b5;m1,0;g0,8,9;");
        int[] worths = {-1, 1, -1, 1, -1};
        for (int n = 0; n <= 4; n++) {
            due.is("one gate, turns " + n, x.byTurns(n, 3), worths[n]);
        }
        x = Due.told("b5;m1,0;m1,1;m1,2;l0,8,9;");
        int[] latch = {-1, 1, -1, 1, -1};
        for (int n = 0; n <= 4; n++) {
            due.is("one latch, turns " + n, x.byTurns(n, 9), latch[n]);
        }
        due.is("but one is there", x.byTurns(1, 1), 1);
        x = Due.told("b5;m6,0;s0,8,9;");
        for (int n = 0; n <= 4; n++) {
            due.is("a sill, turns " + n, x.byTurns(n, 20), 1);
        }
        due.is("n below", x.byTurns(-1, 1), Due.BAD);
        due.is("n above", x.byTurns(5, 1), Due.BAD);
        due.is("m below", x.byTurns(0, 0), Due.BAD);
        due.is("m above", x.byTurns(0, 21), Due.BAD);
        due.is("no RUN ahead of BAD", new MarbleRun().byTurns(-1, 0), Due.STATE);
    }

    private static void who() {
        MarbleRun x = Due.told("b1;m1,0;m1,1;m1,2;m1,3;g0,8,9;");
        Due.fill(x, 0, 99, 1, 11, 12, 22);
        due.is("gate or scale", x.who(0, 0, 0, 1, 4), 0b100010);
        due.is("its point", x.who(0, 1, 0, 1, 4), 1);
        due.is("by the first alone", x.who(0, 0, 0, 1, 1), 0b100110);
        due.is("all else", x.who(0, 0, 0, 0, 1), 0);
        Due.fill(x, 1, 0, 11, 11, 22);
        due.is("a holder", x.who(0, 0, 1, 0, 4), 0b1000);
        due.is("not at any point", x.who(0, 1, 1, 0, 4), 0);
        Due.fill(x, 2, 10, 20, 30, 40);
        due.is("a sill", x.who(0, 0, 2, 0, 4), 0b10000);
        Due.fill(x, 3, 10, 11, 21, 22);
        due.is("the other point", x.who(0, 1, 3, 0, 4), 2);
        due.is("no kind at this point", x.who(0, 0, 3, 0, 4), 0);
        x.row(4, 0, 12);
        due.is("12 ticks", x.who(0, 0, 4, 0, 12), 0);
        due.is("status", x.status(), 0);
        due.is("13 ticks", x.who(0, 0, 4, 0, 13), Due.BAD);
        due.is("no ticks", x.who(0, 0, 4, 0, 0), Due.BAD);
        due.is("which above", x.who(0, 2, 4, 0, 1), Due.BAD);
        due.is("which below", x.who(0, -1, 4, 0, 1), Due.BAD);
        due.is("row above", x.who(0, 0, 8, 0, 1), Due.BAD);
        due.is("row below", x.who(0, 0, -1, 0, 1), Due.BAD);
        due.is("no such piece", x.who(1, 0, 0, 0, 1), Due.BAD);
        due.is("piece below", x.who(-1, 0, 0, 0, 1), Due.BAD);
        due.is("a missing row", x.who(0, 0, 7, 0, 1), Due.NULL);
        due.is("status NULL", x.status(), 1);
        due.is("BAD ahead of NULL", x.who(0, 2, 7, 0, 1), Due.BAD);
        due.is("beyond", x.who(0, 0, 4, 1, 12), Due.PLACE);
        due.is("status PLACE", x.status(), 2);
        due.is("place below", x.who(0, 0, 4, -1, 1), Due.PLACE);
        due.is("place most", x.who(0, 0, 4, Integer.MAX_VALUE, 1), Due.PLACE);
        due.is("NULL ahead of PLACE", x.who(0, 0, 7, -1, 1), Due.NULL);
        due.is("fits again", x.who(0, 1, 0, 1, 4), 1);
        due.is("status then", x.status(), 0);
    }

    private static void whoOfOneThatHolds() {
        MarbleRun x = Due.told("b1;m1,0;m1,1;h0,9,8;");
        x.ticks(1);
        Due.fill(x, 0, 11);
        due.is("lets go as a holder", x.who(0, 0, 0, 0, 1), 0b1000);
        Due.fill(x, 0, 10);
        due.is("keeps it as a gate, a latch", x.who(0, 0, 0, 0, 1), 0b110);
        Due.fill(x, 0, 1);
        due.is("keeps it as a sill, a scale", x.who(0, 0, 0, 0, 1), 0b110000);
    }

    private static void weights() {
        MarbleRun x = Due.told("b5;m3,0;s0,8,9;");
        Due.fill(x, 0, 1, 10);
        due.is("light", x.weights(0, 0, 0, 0, 1), 0b11110);
        due.is("bars above it", x.weights(0, 1, 0, 0, 1), 0b1111110000);
        due.is("heavy", x.weights(0, 0, 0, 1, 1), 0b1111100000);
        due.is("bars up to it", x.weights(0, 1, 0, 1, 1), 0b1110);
        due.is("none", x.weights(0, 0, 0, 0, 2), 0);
        due.is("no bar", x.weights(0, 1, 0, 0, 2), 0);
        due.is("which above", x.weights(0, 2, 0, 0, 1), Due.BAD);
        due.is("which below", x.weights(0, -1, 0, 0, 1), Due.BAD);
        due.is("no such marble", x.weights(1, 0, 0, 0, 1), Due.BAD);
        due.is("no such marble for bars", x.weights(1, 1, 0, 0, 1), Due.BAD);
        due.is("row above", x.weights(0, 0, 8, 0, 1), Due.BAD);
        due.is("no ticks", x.weights(0, 0, 0, 0, 0), Due.BAD);
        due.is("13 ticks", x.weights(0, 0, 0, 0, 13), Due.BAD);
        due.is("a missing row", x.weights(0, 0, 1, 0, 1), Due.NULL);
        due.is("status NULL", x.status(), 1);
        due.is("beyond", x.weights(0, 0, 0, 1, 2), Due.PLACE);
        due.is("status PLACE", x.status(), 2);
        due.is("place below", x.weights(0, 0, 0, -1, 1), Due.PLACE);
        due.is("fits again", x.weights(0, 1, 0, 1, 1), 0b1110);
        due.is("status then", x.status(), 0);
        x = Due.told("b5;m3,0;m2,1;w0,8,9;");
        Due.fill(x, 0, 1, 11);
        due.is("no even sum", x.weights(0, 0, 0, 0, 2), 0);
        due.is("odd with odd", x.weights(1, 0, 0, 0, 2), 0b1010101010);
        due.is("status", x.status(), 0);
    }

    private static void fraction(MarbleRun x, int marble, int n, int p, long above, long below) {
        String call = "jam(" + marble + ", " + n + ", " + p + ")";
        due.is(call + " above", x.jam(marble, n, p, 0), above);
        due.is(call + " below", x.jam(marble, n, p, 1), below);
    }

    private static void jam() {
        MarbleRun x = Due.told("b5;m1,0;g1,8,9;");
        fraction(x, 0, 30, 3, 7, 10);
        fraction(x, 0, 1, 0, 1, 1);
        fraction(x, 0, 1, 10, 0, 1);
        fraction(x, 0, 0, 3, 0, 1);
        x = Due.told("b5;m1,0;g1,8,1;g1,8,9;");
        fraction(x, 0, 2, 3, 49, 100);
        fraction(x, 0, 2, 5, 1, 4);
        fraction(x, 0, 1, 5, 0, 1);
        x = Due.told("b1;m1,0;m1,0;h0,9,8;");
        fraction(x, 1, 1, 4, 2, 5);
        fraction(x, 0, 1, 4, 1, 1);
        x = Due.told("b1;m1,0;g1,8,1;g1,8,2;g1,8,3;g1,8,4;g1,8,5;g1,8,6;g1,8,7;g1,8,9;");
        fraction(x, 0, 8, 1, 43046721, 100000000);
        fraction(x, 0, 8, 2, 65536, 390625);
        due.is("n above", x.jam(0, 31, 1, 0), Due.BAD);
        due.is("n below", x.jam(0, -1, 1, 0), Due.BAD);
        due.is("p above", x.jam(0, 1, 11, 0), Due.BAD);
        due.is("p below", x.jam(0, 1, -1, 0), Due.BAD);
        due.is("what above", x.jam(0, 1, 1, 2), Due.BAD);
        due.is("what below", x.jam(0, 1, 1, -1), Due.BAD);
        due.is("no such marble", x.jam(1, 1, 1, 0), Due.BAD);
        due.is("marble below", x.jam(-1, 1, 1, 0), Due.BAD);
    }

    private static void jamOfOneThatHolds() {
        MarbleRun x = Due.told("b5;m1,0;m1,3;h0,9,8;");
        x.ticks(1);
        fraction(x, 0, 10, 3, 7, 10);
        fraction(x, 1, 10, 3, 3, 10);
    }

    private static void drawn() {
        MarbleRun x = Due.told("b5;m1,0;g0,9,9;");
        for (int n = 0; n <= 60; n += 10) {
            due.is("thrown anew each day, " + n, x.drawn(n, 1, 0), n);
            due.is("never left, " + n, x.drawn(n, 1, 1), 0);
        }
        drawnWeights();
        drawnTips();
        drawnOfSeveral();
        due.is("n above", x.drawn(61, 1, 0), Due.BAD);
        due.is("n below", x.drawn(-1, 1, 0), Due.BAD);
        due.is("seed 0", x.drawn(1, 0, 0), Due.BAD);
        due.is("seed most", x.drawn(0, 999999, 0), 0);
        due.is("seed above", x.drawn(1, 1000000, 0), Due.BAD);
        due.is("what above", x.drawn(1, 1, 2), Due.BAD);
        due.is("what below", x.drawn(1, 1, -1), Due.BAD);
        due.is("no RUN ahead of BAD", new MarbleRun().drawn(-1, 0, 0), Due.STATE);
    }

    /** One marble that falls through a sill each day: its first weight is told, the others are drawn. */
    private static void drawnWeights() {
        MarbleRun x = Due.told("b8;m1,0;s0,8,9;");
        long seed = 4711;
        int heavy = 0;
        for (int day = 1; day <= 60; day++) {
            seed = seed * 16807 % 2147483647;
            heavy += day > 1 && seed % 9 + 1 >= 8 ? 1 : 0;
            due.is("heavy ones by " + day, x.drawn(day, 4711, 0), heavy);
            due.is("light ones by " + day, x.drawn(day, 4711, 1), day - heavy);
        }
    }

    /** One marble that waits till day 21, so that all draws tip the one gate, or do nothing. */
    private static void drawnTips() {
        MarbleRun x = Due.told("b8;m1,20;g0,8,9;");
        for (int first = 1; first <= 40; first++) {
            long seed = first;
            int tips = 0;
            for (int day = 1; day <= 21; day++) {
                seed = seed * 16807 % 2147483647;
                tips += seed % 3 == 0 ? 1 : 0;
            }
            due.is("tips by " + first, x.drawn(21, first, 0), tips % 2);
            due.is("nothing came by " + first, x.drawn(20, first, 0) + x.drawn(20, first, 1), 0);
        }
    }

    /**
     * The seed 1 makes X 16807, 282475249, 1622650073, 984943658. Marble 1 (odd X) is thrown anew on days 2
     * and 3; marble 0 (even X) on day 4.
     */
    private static void drawnOfSeveral() {
        MarbleRun x = Due.told("b5;m1,0;m1,0;g0,8,9;");
        int[] right = {0, 1, 1, 2, 2};
        int[] left = {0, 1, 2, 2, 3};
        for (int n = 0; n <= 4; n++) {
            due.is("right of two by " + n, x.drawn(n, 1, 0), right[n]);
            due.is("left of two by " + n, x.drawn(n, 1, 1), left[n]);
        }
    }

    private static void changesNothing() {
        MarbleRun x = Due.told("b4;m4,0;m3,0;m8,1;m2,5;g1,1,2;w0,9,3;h1,5,9;l0,8,9;");
        x.ticks(2);
        x.again(0, 9);
        Due.fill(x, 0, 1, 2, 3);
        String before = stateOf(x);
        x.ahead(0, 60);
        x.stands(0, 60, 0);
        x.trays(60, 1);
        x.when(1);
        x.rest();
        x.tips(40, 0);
        x.order(40, 0);
        x.leads(0, 40, 0);
        x.sets(9, 2);
        x.share(0, 99);
        x.byTurns(4, 20);
        x.who(0, 0, 0, 0, 3);
        x.weights(0, 1, 0, 0, 3);
        x.jam(0, 30, 5, 0);
        x.drawn(60, 77, 0);
        due.holds("all stays", before.equals(stateOf(x)));
    }

    private static String stateOf(MarbleRun x) {
        StringBuilder s = new StringBuilder();
        for (int what = 0; what <= 6; what++) {
            s.append(x.count(what)).append(' ').append(x.stand(what)).append(' ');
            for (int k = 0; k < 8; k++) {
                s.append(x.marble(k, what)).append(' ').append(x.piece(k, what)).append(' ');
            }
        }
        return s.toString();
    }
}
