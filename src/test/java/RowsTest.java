/** Promises 2 to 5, and 39 as far as rows have to do with it. */
public final class RowsTest {
    private static final Due due = new Due("RowsTest");

    public static void main(String[] args) {
        makes();
        sets();
        copies();
        drops();
        keepsStatus();
        due.end();
    }

    private static void makes() {
        MarbleRun x = Due.told("b1;m1,20;g0,8,9;");
        due.is("row of none", x.row(0, 0, 0), 0);
        due.is("row of 40", x.row(7, 2, 40), 40);
        due.is("rows", x.count(0), 2);
        due.is("row below", x.row(-1, 0, 1), Due.BAD);
        due.is("row above", x.row(8, 0, 1), Due.BAD);
        due.is("lane below", x.row(0, -1, 1), Due.BAD);
        due.is("lane above", x.row(0, 3, 1), Due.BAD);
        due.is("too many", x.row(0, 0, 41), Due.BAD);
        due.is("far too many", x.row(0, 0, Integer.MAX_VALUE), Due.BAD);
        due.is("fewer than none", x.row(0, 0, -1), Due.SIZE);
        due.is("far fewer than none", x.row(0, 0, Integer.MIN_VALUE), Due.SIZE);
        due.is("BAD ahead of SIZE", x.row(8, 0, -1), Due.BAD);
        due.is("lane BAD ahead of SIZE", x.row(0, 3, -1), Due.BAD);
        due.is("rows after refusals", x.count(0), 2);
        x.set(7, 39, 5);
        due.is("a refused one stays", x.row(7, 0, 41), Due.BAD);
        due.is("a found one stays", x.row(7, 0, -2), Due.SIZE);
        due.holds("what was there stays", !isZero(x, 7, 39));
        due.is("in place", x.row(7, 2, 40), 40);
        due.holds("its items are 0", isZero(x, 7, 39));
        due.is("rows as before", x.count(0), 2);
    }

    /** No call reads an item; but while its only marble waits, a run fits items of 0 alone. */
    private static boolean isZero(MarbleRun x, int row, int i) {
        return x.who(0, 0, row, i, 1) == 62;
    }

    private static void sets() {
        MarbleRun x = new MarbleRun();
        due.is("set in a missing row", x.set(3, 0, 1), Due.NULL);
        due.is("set below", x.set(-1, 0, 1), Due.BAD);
        due.is("set above", x.set(8, 0, 1), Due.BAD);
        x.row(0, 0, 3);
        x.row(1, 1, 3);
        x.row(2, 2, 3);
        due.is("byte 127", x.set(0, 0, 127), 127);
        due.is("byte 128", x.set(0, 0, 128), -128);
        due.is("byte 255", x.set(0, 1, 255), -1);
        due.is("byte 256", x.set(0, 1, 256), 0);
        due.is("byte -129", x.set(0, 2, -129), 127);
        due.is("short 32768", x.set(1, 0, 32768), -32768);
        due.is("short 65537", x.set(1, 1, 65537), 1);
        due.is("short -1", x.set(1, 2, -1), -1);
        due.is("int least", x.set(2, 0, Integer.MIN_VALUE), Integer.MIN_VALUE);
        due.is("int most", x.set(2, 2, Integer.MAX_VALUE), Integer.MAX_VALUE);
        due.is("place -1", x.set(2, -1, 1), Due.PLACE);
        due.is("place 3", x.set(2, 3, 1), Due.PLACE);
        due.is("place most", x.set(2, Integer.MAX_VALUE, 1), Due.PLACE);
        due.is("place least", x.set(2, Integer.MIN_VALUE, 1), Due.PLACE);
        x.row(4, 0, 0);
        due.is("a row of none has no place", x.set(4, 0, 1), Due.PLACE);
    }

    private static void copies() {
        MarbleRun x = new MarbleRun();
        x.row(0, 2, 5);
        x.row(1, 2, 3);
        x.row(2, 1, 5);
        due.is("a below", x.copy(-1, 0, 0, 0, 1), Due.BAD);
        due.is("b above", x.copy(0, 0, 8, 0, 1), Due.BAD);
        due.is("a missing", x.copy(5, 0, 0, 0, 1), Due.NULL);
        due.is("b missing", x.copy(0, 0, 5, 0, 1), Due.NULL);
        due.is("NULL ahead of PLACE", x.copy(0, -1, 5, 0, 1), Due.NULL);
        due.is("BAD ahead of NULL", x.copy(5, 0, 8, 0, 1), Due.BAD);
        due.is("two lanes", x.copy(0, 0, 2, 0, 1), Due.STORE);
        due.is("STORE ahead of PLACE", x.copy(0, -1, 2, 0, -1), Due.STORE);
        due.is("STORE of no items", x.copy(0, 0, 2, 0, 0), Due.STORE);
        due.is("i below", x.copy(0, -1, 1, 0, 1), Due.PLACE);
        due.is("j below", x.copy(0, 0, 1, -1, 1), Due.PLACE);
        due.is("n below", x.copy(0, 0, 1, 0, -1), Due.PLACE);
        due.is("beyond a", x.copy(1, 2, 0, 0, 2), Due.PLACE);
        due.is("beyond b", x.copy(0, 0, 1, 2, 2), Due.PLACE);
        due.is("wrapping i", x.copy(0, Integer.MAX_VALUE, 1, 0, 2), Due.PLACE);
        due.is("wrapping n", x.copy(0, 1, 1, 1, Integer.MAX_VALUE), Due.PLACE);
        due.is("none at the end", x.copy(0, 5, 1, 3, 0), 0);
        due.is("none beyond the end", x.copy(0, 6, 1, 0, 0), Due.PLACE);
        due.is("none beyond the other end", x.copy(0, 0, 1, 4, 0), Due.PLACE);
        copiesAsTheyWere();
    }

    /** In a run of gates the trays tell 1, 11, 12, 22: an overlapping copy has to keep them in order. */
    private static void copiesAsTheyWere() {
        String text = "b1;m1,0;m1,1;m1,2;m1,3;g0,8,9;";
        MarbleRun x = Due.told(text);
        int[] trays = {1, 11, 12, 22};
        Due.fill(x, 0, trays);
        due.is("fits", x.who(0, 1, 0, 0, 4), 1);
        x.row(1, 2, 6);
        due.is("to another", x.copy(0, 0, 1, 1, 4), 4);
        due.is("fits there", x.who(0, 1, 1, 1, 4), 1);
        due.is("does not fit ahead", x.who(0, 1, 1, 0, 4), 0);
        due.is("up by one", x.copy(1, 1, 1, 2, 4), 4);
        due.is("fits up", x.who(0, 1, 1, 2, 4), 1);
        due.is("down by two", x.copy(1, 2, 1, 0, 4), 4);
        due.is("fits down", x.who(0, 1, 1, 0, 4), 1);
        due.is("the first one stays", x.who(0, 1, 0, 0, 4), 1);
    }

    private static void drops() {
        MarbleRun x = new MarbleRun();
        x.row(3, 1, 17);
        due.is("drop", x.drop(3), 17);
        due.is("drop twice", x.drop(3), Due.NULL);
        due.is("drop below", x.drop(-1), Due.BAD);
        due.is("drop above", x.drop(8), Due.BAD);
        due.is("missing then", x.set(3, 0, 0), Due.NULL);
        due.is("rows then", x.count(0), 0);
        x.row(3, 0, 0);
        due.is("drop of none", x.drop(3), 0);
    }

    private static void keepsStatus() {
        MarbleRun x = new MarbleRun();
        due.is("at first", x.status(), 0);
        x.row(0, 0, -1);
        due.is("SIZE", x.status(), 4);
        x.row(0, 0, 41);
        due.is("BAD leaves it", x.status(), 4);
        due.is("and is no call with a row", x.status(), 4);
        x.row(0, 0, 1);
        due.is("none", x.status(), 0);
        x.set(0, 1, 1);
        due.is("PLACE", x.status(), 2);
        x.feed(1);
        x.run();
        x.undo();
        x.count(0);
        due.is("other calls leave it", x.status(), 2);
        x.set(0, 0, 1);
        due.is("set clears it", x.status(), 0);
        x.drop(1);
        due.is("NULL", x.status(), 1);
        x.row(1, 1, 1);
        x.copy(0, 0, 1, 0, 1);
        due.is("STORE", x.status(), 5);
        x.copy(0, 0, 0, 0, 1);
        due.is("copy clears it", x.status(), 0);
        x.copy(0, 0, 0, 1, 1);
        due.is("PLACE of copy", x.status(), 2);
        x.drop(1);
        due.is("drop clears it", x.status(), 0);
    }
}
