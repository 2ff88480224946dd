/** The bounds of what fits a row, of chance and of draws (part 3 of the terms, promises 28 to 31), sentence by sentence. */
public final class FitBoundsTest {
    private static final Due due = new Due("FitBoundsTest");
    private static final int LEAST = Integer.MIN_VALUE, MOST = Integer.MAX_VALUE;

    public static void main(String[] args) {
        whatARowTells();
        ticksOfARow();
        kinds();
        points();
        weights();
        bars();
        fromNowOn();
        refusedFits();
        jams();
        jamsOfPieces();
        jamsThatHold();
        jamsOfTicks();
        refusedJams();
        draws();
        drawsOfNone();
        tipsByDraws();
        thrownOrTipped();
        refusedDraws();
        due.end();
    }

    private static int[] beyond(int least, int most) {
        return new int[] {least - 1, most + 1, -2000000, 2000000, LEAST, MOST};
    }

    private static void whatARowTells() {
        due.by("A row tells how many MARBLES are in THE LEFT TRAY and 10 times as many as are in THE RIGHT one");
        for (int right = 0; right <= 6; right++) {
            String text = "b5;" + "m9,0;".repeat(right) + "m1,0;".repeat(6 - right) + "s0,8,9;";
            MarbleRun x = Due.told(text);
            x.row(0, 0, 1);
            int told = 6 - right + 10 * right;
            for (int v = -1; v <= 70; v++) {
                x.set(0, 0, v);
                due.is(v + " for " + told, x.who(0, 1, 0, 0, 1), v == told ? 3 : 0);
                due.is(v + " for " + told + " by bars", x.weights(0, 1, 0, 0, 1) >> 5 & 1, v == told ? 1 : 0);
            }
        }
        MarbleRun x = Due.told("b5;m1,20;g0,8,9;");
        x.row(0, 2, 1);
        for (int v : new int[] {256, 65536, LEAST, MOST, -1}) {
            x.set(0, 0, v);
            due.is(v + " is not 0", x.who(0, 1, 0, 0, 1), 0);
        }
        for (int lane = 0; lane <= 2; lane++) {
            x.row(0, lane, 1);
            due.is("0 of lane " + lane, x.who(0, 1, 0, 0, 1), 3);
        }
    }

    /** The last of six marbles falls in the last of twelve ticks. */
    private static void ticksOfARow() {
        due.by("behind each of n TICKS (1 to 12) from now on");
        MarbleRun x = Due.told("b5;m1,0;m1,2;m1,4;m1,6;m1,8;m1,11;s0,8,9;");
        int[] trays = {1, 1, 2, 2, 3, 3, 4, 4, 5, 5, 5, 6};
        for (int n = 1; n <= 12; n++) {
            Due.fill(x, 0, trays);
            due.is("n " + n, x.who(0, 1, 0, 0, n), 3);
            due.is("n " + n + " of weights", x.weights(0, 0, 0, 0, n), 0b11110);
            x.set(0, n - 1, 9);
            due.is("the last of n " + n, x.who(0, 1, 0, 0, n), 0);
            due.is("ahead of the last of n " + n, n == 1 ? 3 : x.who(0, 1, 0, 0, n - 1), 3);
        }
        Due.fill(x, 1, 1, 1, 2, 2, 3, 3, 4, 4, 5, 5, 5, 6, 6);
        due.is("12 of 13", x.who(0, 1, 1, 0, 12), 3);
        due.is("13 of 13", x.who(0, 1, 1, 0, 13), Due.BAD);
        due.is("12 from 1 on do not fit, but are there", x.who(0, 1, 1, 1, 12), 0);
        due.is("12 from 2 on", x.who(0, 1, 1, 2, 12), Due.PLACE);
    }

    /** For each kind a row by which the piece at the top is of this one alone, whatever it is told to be. */
    private static void kinds() {
        due.by("KINDS (bits 1 to 5) .. of a PIECE now by which it is so");
        int[][] rows = {{1, 11, 12, 22}, {1, 2, 12, 22}, {0, 11, 11, 22}, {10, 20, 30, 31}, {1, 11, 12, 13}};
        for (int told = 1; told <= 5; told++) {
            MarbleRun x = Due.told("b3;m3,0;m3,1;m3,2;m2,3;" + "glhsw".charAt(told - 1) + "0,8,9;");
            for (int kind = 1; kind <= 5; kind++) {
                Due.fill(x, 0, rows[kind - 1]);
                due.is("kind " + kind + " alone", x.who(0, 0, 0, 0, 4), 1 << kind);
            }
            due.is("by three alone a gate, too", x.who(0, 0, 0, 0, 3), 0b100010);
            Due.fill(x, 0, 0, 0, 0, 0);
            due.is("none", x.who(0, 0, 0, 0, 4), 0);
            due.is("nothing has changed", x.kind(0), told);
        }
        MarbleRun x = Due.told("b2;m3,5;g0,8,9;");
        Due.fill(x, 0, 0);
        due.is("all of them", x.who(0, 0, 0, 0, 1), 0b111110);
    }

    private static void points() {
        due.by("POINTS (bits 0, 1) of a PIECE now by which it is so");
        MarbleRun x = Due.told("b2;m3,0;g0,1,1;g1,8,9;");
        Due.fill(x, 0, 0, 1, 1);
        Due.fill(x, 1, 0, 10, 10);
        due.is("left", x.who(1, 1, 0, 0, 3), 1);
        due.is("right", x.who(1, 1, 1, 0, 3), 2);
        due.is("both", x.who(1, 1, 0, 0, 1), 3);
        due.is("neither", x.who(1, 1, 0, 1, 1), 0);
        due.is("of the other: any, but not by this", x.who(0, 1, 0, 0, 3), 0);
        due.is("of the other: any", x.who(0, 1, 1, 0, 3), 3);
        due.is("nothing has changed", x.piece(1, 0), 1);
    }

    private static void weights() {
        due.by("WEIGHTS (1 to 9, bits) of a MARBLE");
        for (int bar = 1; bar <= 9; bar++) {
            MarbleRun x = Due.told("b" + bar + ";m5,0;s0,8,9;");
            Due.fill(x, 0, 1, 10);
            int heavy = 0b1111111110 & -(1 << bar);
            due.is("light ones, bar " + bar, x.weights(0, 0, 0, 0, 1), 0b1111111110 & ~heavy);
            due.is("heavy ones, bar " + bar, x.weights(0, 0, 0, 1, 1), heavy);
            due.is("none, bar " + bar, x.weights(0, 0, 0, 0, 2), 0);
            due.is("nothing has changed", x.marble(0, 0), 5);
        }
        MarbleRun x = Due.told("b5;m4,20;w0,8,9;");
        Due.fill(x, 0, 0);
        due.is("all of them", x.weights(0, 0, 0, 0, 1), 0b1111111110);
    }

    private static void bars() {
        due.by("BARS (1 to 9, bits) by which it is so");
        for (int weight = 1; weight <= 9; weight++) {
            MarbleRun x = Due.told("b5;m" + weight + ",0;s0,8,9;");
            Due.fill(x, 0, 1, 10);
            int low = (1 << weight + 1) - 2;
            due.is("bars up to " + weight, x.weights(0, 1, 0, 1, 1), low);
            due.is("bars above " + weight, x.weights(0, 1, 0, 0, 1), 0b1111111110 & ~low);
            due.is("no bar", x.weights(0, 1, 0, 0, 2), 0);
            due.is("nothing has changed", x.stand(0), 5);
        }
        MarbleRun x = Due.told("b5;m4,0;w0,8,9;");
        Due.fill(x, 0, 10);
        due.is("all of them", x.weights(0, 1, 0, 0, 1), 0b1111111110);
    }

    private static void fromNowOn() {
        due.by("from now on .. of a PIECE now .. of a MARBLE");
        MarbleRun x = Due.told("b5;m1,0;m4,0;m5,1;s0,8,9;");
        x.ticks(1);
        Due.fill(x, 0, 12, 3);
        due.is("those in a TRAY stay there, whatever they weigh", x.weights(0, 0, 0, 0, 1), 0b1111111110);
        due.is("the one to come is heavy", x.weights(2, 0, 0, 0, 1), 0b1111100000);
        due.is("or light", x.weights(2, 0, 0, 1, 1), 0b11110);
        due.is("bars for the one to come", x.weights(2, 1, 0, 0, 1), 0b111110);
        due.is("bars are the same for all", x.weights(0, 1, 0, 0, 1), 0b111110);
    }

    private static void refusedFits() {
        due.by("n ITEMS of a ROW from i on. BAD: PIECE, which, ROW, n; NULL; PLACE. .. BAD: MARBLE, which, ROW, n; NULL; PLACE.");
        MarbleRun x = Due.told("b5;m1,20;m1,20;m1,20;g0,8,9;g0,8,9;");
        x.row(0, 0, 40);
        x.row(1, 1, 0);
        for (String name : new String[] {"who", "weights"}) {
            int last = name.equals("who") ? 1 : 2;
            int fits = name.equals("who") ? 3 : 1022;
            due.is(name + " of the last one", Calls.answer(x, name, last, 1, 0, 0, 1), fits);
            for (int one : beyond(0, last)) {
                due.is(name + " of " + one, Calls.answer(x, name, one, 1, 0, 0, 1), Due.BAD);
            }
            for (int which : beyond(0, 1)) {
                due.is(name + ", which " + which, Calls.answer(x, name, 0, which, 0, 0, 1), Due.BAD);
            }
            for (int row : beyond(0, 7)) {
                due.is(name + " by row " + row, Calls.answer(x, name, 0, 1, row, 0, 1), Due.BAD);
            }
            for (int n : beyond(1, 12)) {
                due.is(name + " for " + n, Calls.answer(x, name, 0, 1, 0, 0, n), Due.BAD);
            }
            due.is("BAD leaves the status", x.status(), 0);
            for (int n = 1; n <= 12; n++) {
                due.is(name + " at the end", Calls.answer(x, name, 0, 1, 0, 40 - n, n), fits);
                due.is("status", x.status(), 0);
                due.is(name + " beyond the end", Calls.answer(x, name, 0, 1, 0, 41 - n, n), Due.PLACE);
                due.is("status of PLACE", x.status(), 2);
                due.is(name + " of a missing row", Calls.answer(x, name, 0, 1, 7, 41 - n, n), Due.NULL);
                due.is("status of NULL", x.status(), 1);
            }
            for (int i : new int[] {-1, 40, LEAST, MOST}) {
                due.is(name + " from " + i, Calls.answer(x, name, 0, 1, 0, i, 1), Due.PLACE);
                due.is(name + " from " + i + " of a row of none", Calls.answer(x, name, 0, 1, 1, i, 1), Due.PLACE);
            }
            due.is(name + " of a row of none", Calls.answer(x, name, 0, 1, 1, 0, 1), Due.PLACE);
            due.is(name + " fits again", Calls.answer(x, name, 0, 1, 0, 0, 1), fits);
            due.is("status then", x.status(), 0);
        }
    }

    private static void fraction(MarbleRun x, int marble, int n, int p, long above, long below) {
        String call = Calls.told("jam", marble, n, p);
        due.is(call + " above", x.jam(marble, n, p, 0), above);
        due.is(call + " below", x.jam(marble, n, p, 1), below);
    }

    private static void jams() {
        due.by("JAM by p of 10 (0 to 10) .. fractions, told as two numbers in lowest terms (0 is 0 by 1)");
        MarbleRun right = Due.told("b1;m1,0;g1,8,9;");
        MarbleRun left = Due.told("b1;m1,0;g1,9,8;");
        long[][] lowest = {{0, 1}, {1, 10}, {1, 5}, {3, 10}, {2, 5}, {1, 2}, {3, 5}, {7, 10}, {4, 5}, {9, 10}, {1, 1}};
        for (int p = 0; p <= 10; p++) {
            fraction(left, 0, 1, p, lowest[p][0], lowest[p][1]);
            fraction(right, 0, 1, p, lowest[10 - p][0], lowest[10 - p][1]);
        }
        fraction(Due.told("b1;m1,0;g0,8,8;"), 0, 30, 5, 0, 1);
        fraction(Due.told("b1;m1,0;g0,9,9;"), 0, 30, 5, 1, 1);
        MarbleRun there = Due.told("b1;m1,0;m1,0;g1,8,9;");
        there.ticks(1);
        fraction(there, 0, 0, 7, 1, 1);
        fraction(there, 1, 0, 7, 0, 1);
    }

    private static void jamsOfPieces() {
        due.by("each PIECE that is there is jammed from now on in p of 10 cases, apart (it sends all to LEFT, .. POINT stays");
        String chain = "g1,8,1;g1,8,2;g1,8,3;g1,8,4;g1,8,5;g1,8,6;g1,8,7;g1,8,9;";
        MarbleRun x = Due.told("b1;m1,0;" + chain);
        fraction(x, 0, 8, 1, 43046721, 100000000);
        fraction(x, 0, 8, 9, 1, 100000000);
        fraction(x, 0, 8, 5, 1, 256);
        fraction(x, 0, 8, 0, 1, 1);
        fraction(x, 0, 8, 10, 0, 1);
        // Over pieces that no marble reaches the fraction does not change.
        fraction(Due.told("b1;m1,0;g1,8,9;" + "g1,8,9;".repeat(7)), 0, 8, 3, 7, 10);
        // A gate that is jammed does not swing: both go left. Else the second goes right.
        fraction(Due.told("b1;m1,0;m1,0;g0,8,9;"), 1, 1, 3, 7, 10);
        fraction(Due.told("b1;m1,0;m1,0;g0,8,9;"), 0, 1, 3, 0, 1);
        // A sill and a scale send all to LEFT, too.
        fraction(Due.told("b1;m1,0;s0,8,9;"), 0, 1, 3, 7, 10);
        fraction(Due.told("b1;m2,0;w0,8,9;"), 0, 1, 3, 7, 10);
    }

    private static void jamsThatHold() {
        due.by("holds none anew, POINT stays; whom it HOLDS it keeps)");
        MarbleRun x = Due.told("b1;m1,0;m1,3;h0,9,8;");
        fraction(x, 0, 10, 3, 1, 1);
        fraction(x, 1, 10, 3, 3, 10);
        x.ticks(1);
        fraction(x, 0, 10, 3, 7, 10);
        fraction(x, 1, 10, 3, 3, 10);
    }

    private static void jamsOfTicks() {
        due.by("how likely a MARBLE is in THE RIGHT TRAY behind n TICKS (0 to 30)");
        MarbleRun x = Due.told("b1;m1,20;g0,1,1;g0,2,2;g0,3,3;g0,4,4;g0,5,5;g0,6,6;g0,7,7;g1,8,9;");
        fraction(x, 0, 0, 2, 0, 1);
        fraction(x, 0, 27, 2, 0, 1);
        fraction(x, 0, 28, 2, 4, 5);
        fraction(x, 0, 30, 2, 4, 5);
    }

    private static void refusedJams() {
        due.by("JAM: above (what = 0), below (1). BAD.");
        MarbleRun x = Due.told("b1;m1,0;m1,0;g0,8,9;");
        for (int what = 0; what <= 1; what++) {
            for (int m : beyond(0, 1)) {
                due.is("marble " + m, x.jam(m, 1, 1, what), Due.BAD);
            }
            for (int n : beyond(0, 30)) {
                due.is("n " + n, x.jam(0, n, 1, what), Due.BAD);
            }
            for (int p : beyond(0, 10)) {
                due.is("p " + p, x.jam(0, 1, p, what), Due.BAD);
            }
            due.is("no RUN", new MarbleRun().jam(0, 0, 0, what), Due.BAD);
        }
        for (int what : beyond(0, 1)) {
            due.is("what " + what, x.jam(0, 1, 1, what), Due.BAD);
        }
    }

    private static long next(long x) {
        return x * 16807 % 2147483647L;
    }

    /** One marble that falls each day: thrown anew ahead of each but the first, of the weight that is drawn. */
    private static void draws() {
        due.by("DAYS of n TICKS (0 to 60) by a SEED .. (1 to 999999) .. thrown anew, of WEIGHT the rest of X by 9 and 1");
        for (int seed : new int[] {1, 2, 127773, 999998, 999999}) {
            MarbleRun x = Due.told("b5;m9,0;s0,8,9;");
            long drawn = next(seed);
            int heavy = 1;
            due.is("no day, RIGHT", x.drawn(0, seed, 0), 0);
            due.is("no day, LEFT", x.drawn(0, seed, 1), 0);
            for (int day = 1; day <= 60; day++) {
                due.is("RIGHT by day " + day, x.drawn(day, seed, 0), heavy);
                due.is("LEFT by day " + day, x.drawn(day, seed, 1), day - heavy);
                drawn = next(drawn);
                heavy += drawn % 9 + 1 >= 5 ? 1 : 0;
            }
        }
    }

    /** Those that are in a TRAY already did not come in them; who is thrown anew counts each time. */
    private static void drawsOfNone() {
        due.by("how many came into THE RIGHT TRAY in them; into THE LEFT");
        MarbleRun x = Due.told("b1;m1,0;m1,0;m1,0;m1,0;m1,0;m1,0;s0,8,9;");
        due.is("six on the first day", x.drawn(1, 1, 0), 6);
        x.ticks(1);
        due.is("no day", x.drawn(0, 1, 0), 0);
        for (int day = 1; day <= 60; day++) {
            due.is("one on each day, " + day, x.drawn(day, 1, 0), day);
        }
        due.is("none in THE LEFT", x.drawn(60, 1, 1), 0);
        MarbleRun late = Due.told("b1;m1,0;s0,8,9;");
        for (int k = 0; k < 41; k++) {
            late.ticks(24);
        }
        late.ticks(15);
        due.is("beyond TICK 999, too", late.drawn(60, 7, 0), 60);
    }

    /** One marble that starts on day 21, leaves gate 0 on that day, and gate 1 or 2 on the next. */
    private static void tipsByDraws() {
        due.by("else the PIECE that is the rest of X by how many there are is tipped, if X by 3 leaves 0; then the TICK");
        for (int seed = 1; seed <= 200; seed++) {
            MarbleRun x = Due.told("b1;m1,20;g0,1,2;g0,8,9;g0,8,9;g0,8,9;");
            long drawn = seed;
            int[] point = {0, 0, 0, 0};
            int on = 0;
            for (int day = 1; day <= 22; day++) {
                drawn = next(drawn);
                point[(int) (drawn % 4)] ^= drawn % 3 == 0 ? 1 : 0;
                if (day == 21) {
                    on = 1 + point[0];
                    point[0] ^= 1;
                }
            }
            due.is("RIGHT by " + seed, x.drawn(22, seed, 0), point[on]);
            due.is("LEFT by " + seed, x.drawn(22, seed, 1), 1 - point[on]);
            due.is("not yet by " + seed, x.drawn(21, seed, 0) + x.drawn(21, seed, 1), 0);
        }
    }

    /** One marble over one gate: tipped by the first draw at most, for from then on the marble is thrown anew each day. */
    private static void thrownOrTipped() {
        due.by("if it is in a TRAY, is thrown anew .. else the PIECE .. is tipped");
        for (int seed = 1; seed <= 30; seed++) {
            MarbleRun x = Due.told("b1;m1,0;g0,8,9;");
            int first = next(seed) % 3 == 0 ? 1 : 0;
            for (int day = 0; day <= 12; day++) {
                int right = (day + first) / 2;
                due.is("RIGHT by " + seed + ", day " + day, x.drawn(day, seed, 0), right);
                due.is("LEFT by " + seed + ", day " + day, x.drawn(day, seed, 1), day - right);
            }
        }
    }

    private static void refusedDraws() {
        due.by("DAYS .. THE RIGHT (what = 0), THE LEFT (1). BAD; STATE: no RUN (ahead of BAD).");
        MarbleRun x = Due.told("b1;m1,0;g0,8,9;");
        for (int n : beyond(0, 60)) {
            due.is("n " + n, x.drawn(n, 1, 0), Due.BAD);
            due.is("no RUN, ahead of BAD", new MarbleRun().drawn(n, 1, 0), Due.STATE);
        }
        for (int seed : new int[] {0, -1, 1000000, LEAST, MOST}) {
            due.is("seed " + seed, x.drawn(0, seed, 0), Due.BAD);
            due.is("no RUN, ahead of BAD", new MarbleRun().drawn(0, seed, 0), Due.STATE);
        }
        for (int what : beyond(0, 1)) {
            due.is("what " + what, x.drawn(0, 1, what), Due.BAD);
            due.is("no RUN, ahead of BAD", new MarbleRun().drawn(0, 1, what), Due.STATE);
        }
        due.is("no RUN", new MarbleRun().drawn(0, 1, 0), Due.STATE);
        due.is("the least of all", x.drawn(0, 1, 0), 0);
        due.is("the most of all", x.drawn(60, 999999, 1) + x.drawn(60, 999999, 0), 60);
    }
}
