/** The bounds of rows (part 1 of the terms, promises 2 to 5), sentence by sentence. */
public final class RowBoundsTest {
    private static final Due due = new Due("RowBoundsTest");
    private static final int LEAST = Integer.MIN_VALUE, MOST = Integer.MAX_VALUE;
    /** While its only marble waits, a run fits items of 0 alone; see isZero. */
    private static final String WAITING = "b1;m1,20;g0,8,9;";

    public static void main(String[] args) {
        missingAtFirst();
        numbersOfRows();
        lanes();
        howManyItems();
        zeroAtFirst();
        inPlaceOfWhatIsThere();
        fewerThanNone();
        lowestBits();
        placesOfSet();
        setsOneItem();
        copiesOfMissingRows();
        copiesOfTwoLanes();
        placesOfCopy();
        asTheyWereAhead();
        copiesNoMore();
        drops();
        due.end();
    }

    /** No call reads an item; but a run whose marble waits fits those that are 0. */
    private static boolean isZero(MarbleRun x, int row, int i) {
        return x.who(0, 1, row, i, 1) == 3;
    }

    private static void missingAtFirst() {
        due.by("ROWS 0 .. 7 are missing (at first)");
        MarbleRun x = Due.told(WAITING);
        due.is("rows", x.count(0), 0);
        x.row(0, 0, 1);
        due.is("one row", x.count(0), 1);
        for (int row = 1; row <= 7; row++) {
            due.is("set in " + row, x.set(row, 0, 1), Due.NULL);
            due.is("copy from " + row, x.copy(row, 0, 0, 0, 0), Due.NULL);
            due.is("copy to " + row, x.copy(0, 0, row, 0, 0), Due.NULL);
            due.is("who by " + row, x.who(0, 0, row, 0, 1), Due.NULL);
            due.is("weights by " + row, x.weights(0, 0, row, 0, 1), Due.NULL);
            due.is("drop of " + row, x.drop(row), Due.NULL);
        }
        due.is("drop of 0", new MarbleRun().drop(0), Due.NULL);
    }

    private static void numbersOfRows() {
        due.by("ROWS 0 .. 7");
        MarbleRun x = Due.told(WAITING);
        for (int row = 0; row <= 7; row++) {
            due.is("row " + row, x.row(row, 2, 3), 3);
            due.is("set in " + row, x.set(row, 2, row), row);
            due.is("copy to " + row, x.copy(0, 0, row, 0, 3), 3);
            due.is("copy from " + row, x.copy(row, 0, 0, 0, 3), 3);
            due.is("who by " + row, x.who(0, 1, row, 0, 1), 3);
            due.is("weights by " + row, x.weights(0, 1, row, 0, 1), 1022);
            due.is("rows then", x.count(0), row + 1);
        }
        for (int row : new int[] {-1, 8, LEAST, MOST}) {
            due.is("row " + row, x.row(row, 2, 3), Due.BAD);
            due.is("set in " + row, x.set(row, 2, 1), Due.BAD);
            due.is("copy to " + row, x.copy(0, 0, row, 0, 3), Due.BAD);
            due.is("copy from " + row, x.copy(row, 0, 0, 0, 3), Due.BAD);
            due.is("who by " + row, x.who(0, 1, row, 0, 1), Due.BAD);
            due.is("weights by " + row, x.weights(0, 1, row, 0, 1), Due.BAD);
            due.is("drop of " + row, x.drop(row), Due.BAD);
        }
        for (int row = 7; row >= 0; row--) {
            due.is("drop of " + row, x.drop(row), 3);
            due.is("rows behind that", x.count(0), row);
        }
    }

    private static void lanes() {
        due.by("have a LANE (0 bytes, 1 shorts, 2 ints)");
        MarbleRun x = new MarbleRun();
        int[] kept = {112, 4464, 70000};
        for (int lane = 0; lane <= 2; lane++) {
            due.is("lane " + lane, x.row(0, lane, 1), 1);
            due.is("70000 in it", x.set(0, 0, 70000), kept[lane]);
        }
        for (int lane : new int[] {-1, 3, LEAST, MOST}) {
            due.is("lane " + lane, x.row(0, lane, 1), Due.BAD);
        }
        due.is("the lane stays", x.set(0, 0, 70000), 70000);
    }

    private static void howManyItems() {
        due.by("0 to 40 ITEMS");
        for (int lane = 0; lane <= 2; lane++) {
            for (int n : new int[] {0, 1, 39, 40}) {
                MarbleRun x = new MarbleRun();
                due.is("row of " + n, x.row(0, lane, n), n);
                due.is("beyond the last of " + n, x.set(0, n, 1), Due.PLACE);
                due.is("the last of " + n, x.set(0, n - 1, 1), n == 0 ? Due.PLACE : 1);
                due.is("drop of " + n, x.drop(0), n);
            }
            due.is("row of 41", new MarbleRun().row(0, lane, 41), Due.BAD);
            due.is("row of most", new MarbleRun().row(0, lane, MOST), Due.BAD);
        }
    }

    private static void zeroAtFirst() {
        due.by("ITEMS, 0 at first");
        MarbleRun x = Due.told(WAITING);
        for (int lane = 0; lane <= 2; lane++) {
            x.row(lane, lane, 40);
            for (int i = 0; i < 40; i++) {
                due.holds("item " + i, isZero(x, lane, i));
            }
        }
        x.set(2, 17, 5);
        due.holds("one that was set is not", !isZero(x, 2, 17));
    }

    private static void inPlaceOfWhatIsThere() {
        due.by("A ROW of a LANE with n ITEMS, in place of what is there: n.");
        MarbleRun x = Due.told(WAITING);
        x.row(3, 2, 40);
        for (int i = 0; i < 40; i++) {
            x.set(3, i, 7);
        }
        due.is("a shorter one", x.row(3, 0, 5), 5);
        due.is("its end", x.set(3, 5, 1), Due.PLACE);
        due.is("its lane", x.set(3, 4, 256), 0);
        due.is("a longer one", x.row(3, 2, 40), 40);
        for (int i = 0; i < 40; i++) {
            due.holds("nothing is left at " + i, isZero(x, 3, i));
        }
        due.is("one row, still", x.count(0), 1);
        due.is("one of none", x.row(3, 1, 0), 0);
        due.is("that is not missing", x.set(3, 0, 1), Due.PLACE);
        due.is("and counts", x.count(0), 1);
    }

    private static void fewerThanNone() {
        due.by("BAD: ROW, LANE, n above 40; SIZE.");
        MarbleRun x = new MarbleRun();
        due.is("-1", x.row(0, 0, -1), Due.SIZE);
        due.is("status", x.status(), 4);
        due.is("least", x.row(0, 0, LEAST), Due.SIZE);
        due.is("still missing", x.drop(0), Due.NULL);
        due.is("none", x.row(0, 0, 0), 0);
        due.is("status then", x.status(), 0);
        due.is("a bad ROW ahead of it", x.row(8, 0, -1), Due.BAD);
        due.is("a bad LANE ahead of it", x.row(0, -1, -1), Due.BAD);
        due.is("status of BAD", x.status(), 0);
    }

    private static void lowestBits() {
        due.by("ITEM i becomes v, its lowest bits, as many as the LANE has: what it is then.");
        int[][] bytes = {{0, 0}, {127, 127}, {128, -128}, {255, -1}, {256, 0}, {-1, -1}, {-128, -128}, {-129, 127},
            {-256, 0}, {32767, -1}, {LEAST, 0}, {MOST, -1}};
        int[][] shorts = {{0, 0}, {128, 128}, {32767, 32767}, {32768, -32768}, {65535, -1}, {65536, 0}, {-32768, -32768},
            {-32769, 32767}, {-65536, 0}, {LEAST, 0}, {MOST, -1}};
        int[][] ints = {{0, 0}, {32768, 32768}, {65536, 65536}, {-32769, -32769}, {LEAST, LEAST}, {MOST, MOST}, {-1, -1}};
        int[][][] lanes = {bytes, shorts, ints};
        MarbleRun x = new MarbleRun();
        for (int lane = 0; lane <= 2; lane++) {
            x.row(lane, lane, 1);
            for (int[] pair : lanes[lane]) {
                due.is(pair[0] + " in lane " + lane, x.set(lane, 0, pair[0]), pair[1]);
            }
        }
        MarbleRun y = Due.told(WAITING);
        y.row(0, 0, 1);
        y.set(0, 0, 256);
        due.holds("256 in a byte is kept as 0", isZero(y, 0, 0));
    }

    private static void placesOfSet() {
        due.by("BAD: ROW; NULL; PLACE.");
        MarbleRun x = new MarbleRun();
        x.row(0, 0, 40);
        x.row(1, 1, 1);
        x.row(2, 2, 0);
        due.is("0 of 40", x.set(0, 0, 1), 1);
        due.is("39 of 40", x.set(0, 39, 1), 1);
        due.is("40 of 40", x.set(0, 40, 1), Due.PLACE);
        due.is("-1 of 40", x.set(0, -1, 1), Due.PLACE);
        due.is("least of 40", x.set(0, LEAST, 1), Due.PLACE);
        due.is("most of 40", x.set(0, MOST, 1), Due.PLACE);
        due.is("0 of 1", x.set(1, 0, 1), 1);
        due.is("1 of 1", x.set(1, 1, 1), Due.PLACE);
        due.is("status", x.status(), 2);
        due.is("0 of none", x.set(2, 0, 1), Due.PLACE);
        due.is("-1 of none", x.set(2, -1, 1), Due.PLACE);
        due.is("NULL ahead of PLACE", x.set(3, 40, 1), Due.NULL);
        due.is("status of NULL", x.status(), 1);
        due.is("BAD ahead of both", x.set(8, 40, 1), Due.BAD);
    }

    private static void setsOneItem() {
        due.by("ITEM i becomes v");
        MarbleRun x = Due.told(WAITING);
        for (int row = 0; row <= 7; row++) {
            x.row(row, 2, 3);
        }
        x.set(4, 1, 9);
        for (int row = 0; row <= 7; row++) {
            for (int i = 0; i < 3; i++) {
                due.holds("row " + row + ", item " + i, isZero(x, row, i) == (row != 4 || i != 1));
            }
        }
    }

    private static void copiesOfMissingRows() {
        due.by("BAD: ROWS; NULL");
        MarbleRun x = new MarbleRun();
        x.row(0, 2, 4);
        due.is("both missing", x.copy(1, 0, 2, 0, 1), Due.NULL);
        due.is("one missing, twice", x.copy(1, 0, 1, 0, 0), Due.NULL);
        due.is("a missing", x.copy(1, 0, 0, 0, 1), Due.NULL);
        due.is("b missing", x.copy(0, 0, 1, 0, 1), Due.NULL);
        due.is("none of a missing one", x.copy(1, 0, 0, 0, 0), Due.NULL);
        due.is("status", x.status(), 1);
        due.is("a BAD, b missing", x.copy(8, 0, 1, 0, 1), Due.BAD);
        due.is("a missing, b BAD", x.copy(1, 0, -1, 0, 1), Due.BAD);
        due.is("no place of a missing one", x.copy(1, -1, 0, 5, -1), Due.NULL);
    }

    private static void copiesOfTwoLanes() {
        due.by("STORE (ROWS of two LANES)");
        MarbleRun x = new MarbleRun();
        for (int row = 0; row < 6; row++) {
            x.row(row, row % 3, 4);
        }
        for (int a = 0; a < 6; a++) {
            for (int b = 0; b < 6; b++) {
                boolean alike = a % 3 == b % 3;
                due.is(a + " to " + b, x.copy(a, 0, b, 0, 4), alike ? 4 : Due.STORE);
                due.is("status", x.status(), alike ? 0 : 5);
                due.is("none of " + a + " to " + b, x.copy(a, 4, b, 4, 0), alike ? 0 : Due.STORE);
                due.is("no place of " + a + " to " + b, x.copy(a, 5, b, 0, 1), alike ? Due.PLACE : Due.STORE);
            }
        }
    }

    private static void placesOfCopy() {
        due.by("PLACE (i, j, n below 0, or beyond an end)");
        MarbleRun x = new MarbleRun();
        x.row(0, 2, 40);
        x.row(1, 2, 5);
        x.row(2, 2, 0);
        int[][] fine = {{0, 0, 0, 0, 40}, {0, 0, 1, 0, 5}, {0, 35, 1, 0, 5}, {1, 0, 0, 35, 5}, {0, 40, 1, 5, 0},
            {1, 4, 0, 39, 1}, {2, 0, 2, 0, 0}, {0, 0, 2, 0, 0}, {2, 0, 0, 40, 0}, {1, 5, 1, 0, 0}};
        for (int[] c : fine) {
            due.is(Calls.told("copy", c), x.copy(c[0], c[1], c[2], c[3], c[4]), c[4]);
            due.is("status", x.status(), 0);
        }
        int[][] beyond = {{0, -1, 1, 0, 1}, {0, 0, 1, -1, 1}, {0, 0, 1, 0, -1}, {0, 36, 1, 0, 5}, {1, 0, 0, 36, 5},
            {0, 0, 0, 0, 41}, {0, 0, 1, 0, 6}, {1, 0, 0, 0, 6}, {0, 41, 1, 0, 0}, {0, 0, 1, 6, 0}, {2, 0, 0, 0, 1},
            {0, 0, 2, 0, 1}, {0, -1, 0, 0, 0}, {0, 0, 0, -1, 0}, {1, 5, 1, 0, 1}, {1, 0, 1, 5, 1}, {0, 6, 1, 0, -1},
            {0, MOST, 1, 0, 1}, {0, 0, 1, MOST, 1}, {0, 1, 1, 1, MOST}, {0, MOST, 1, MOST, MOST}, {0, LEAST, 1, 0, 0},
            {0, 0, 1, LEAST, 0}, {0, 0, 1, 0, LEAST}, {0, LEAST, 1, LEAST, LEAST}, {0, MOST, 1, 0, LEAST}};
        for (int[] c : beyond) {
            due.is(Calls.told("copy", c), x.copy(c[0], c[1], c[2], c[3], c[4]), Due.PLACE);
            due.is("status", x.status(), 2);
        }
    }

    /** One gate and a marble a tick: behind each tick the trays tell 1, 11, 12, 22, 23, 33. */
    private static void asTheyWereAhead() {
        due.by("n ITEMS of a from i on come to b from j on, as they were ahead: n.");
        int[] trays = {1, 11, 12, 22, 23, 33};
        for (int from = 0; from <= 6; from++) {
            for (int to = 0; to <= 6; to++) {
                MarbleRun x = Due.told("b1;m1,0;m1,1;m1,2;m1,3;m1,4;m1,5;g0,8,9;");
                x.row(0, 0, 12);
                for (int k = 0; k < 6; k++) {
                    x.set(0, from + k, trays[k]);
                }
                due.is("from " + from + " to " + to, x.copy(0, from, 0, to, 6), 6);
                due.is("they fit at " + to, x.who(0, 1, 0, to, 6), 1);
            }
        }
    }

    private static void copiesNoMore() {
        due.by("n ITEMS of a from i on come to b from j on");
        MarbleRun x = Due.told(WAITING);
        x.row(0, 2, 6);
        x.row(1, 2, 8);
        for (int i = 0; i < 6; i++) {
            x.set(0, i, 5);
        }
        due.is("three", x.copy(0, 3, 1, 2, 3), 3);
        for (int i = 0; i < 8; i++) {
            due.holds("item " + i, isZero(x, 1, i) == (i < 2 || i > 4));
        }
        for (int i = 0; i < 6; i++) {
            due.holds("item " + i + " of a stays", !isZero(x, 0, i));
        }
        due.is("none", x.copy(0, 0, 1, 0, 0), 0);
        due.holds("none came", isZero(x, 1, 0));
    }

    private static void drops() {
        due.by("A ROW is missing from now on: how many ITEMS it had. BAD; NULL.");
        MarbleRun x = Due.told(WAITING);
        for (int n : new int[] {0, 1, 40}) {
            x.row(7, 2, n);
            x.set(7, 0, 3);
            due.is("drop of " + n, x.drop(7), n);
            due.is("status", x.status(), 0);
            due.is("rows", x.count(0), 0);
            due.is("set", x.set(7, 0, 1), Due.NULL);
            due.is("drop twice", x.drop(7), Due.NULL);
            due.is("status of NULL", x.status(), 1);
        }
        x.row(7, 2, 1);
        due.holds("a new one has 0 again", isZero(x, 7, 0));
    }
}
