import java.util.Arrays;
import java.util.List;
import java.util.TreeSet;

/**
 * Which parts of an object each good call changes, and that it leaves all the others: every kind of call, on an
 * object that has something of everything, in which each of those parts can be seen to change.
 */
public final class ChangesTest {
    private static final Due due = new Due("ChangesTest");
    private static final String GOOD = "b2;m1,0;g0,8,9;";
    private static final TreeSet<String> seen = new TreeSet<>();

    public static void main(String[] args) {
        sceneIsAsTold();
        rows();
        texts();
        acts();
        images();
        asks();
        tellers();
        everyCallIsThere();
        due.end();
    }

    /** Worked out by hand: else what each call that makes the scene does beside would be in all that is compared. */
    private static void sceneIsAsTold() {
        String marblesAtFirst = "3 0 10 7 0 10 2 1 10 9 20 10 5 2 10";
        String piecesAtFirst = "1 0 1 2 NONE 0 0 0 3 0 3 9 NONE 0 0 0 4 1 8 9 NONE 0 0 0 2 1 8 9 NONE 0 0 0";
        String atFirst = "4 5 0 0 0 5 " + marblesAtFirst + " " + piecesAtFirst + " 6 0 23";
        String missing = " NULL NULL NULL NULL NULL NULL";
        tells(Whole.STATUS, "2");
        tells(Whole.FAULT, "2");
        tells(Whole.TRACE, "12 11 10 24 21 20 NONE");
        tells(Whole.ROWS, "2 3 0 3 PLACE 3 3 3 3 0 PLACE" + missing + " 0 2 0 PLACE 0 0 0 0 1 PLACE" + missing
            + " 112 3 70000 5" + missing + missing);
        tells(Whole.TAPE, "2 -1000101 2");
        tells(Whole.RUN, "4 5 3 1 7 5 3 0 21 7 0 9 2 1 8 9 20 10 5 2 1 "
            + "1 1 1 2 NONE 4 17 0 3 0 3 9 0 1 3 16 4 1 8 9 NONE 2 9 0 2 0 9 9 NONE 0 0 0 19 4 27");
        tells(Whole.ACTS, "6 5 2 3 21 7 9 2 2 9 10 5 10 120 390 1890 990 4 2 3 21 7 9 2 2 9 10 5 10 120 390 1890 1990 "
            + "3 2 3 21 7 9 2 2 9 10 5 10 120 390 1890 1890 2 1 3 1 7 2 2 10 9 10 5 10 1120 390 1890 1890 "
            + "1 1 3 1 7 2 2 10 9 10 5 10 120 390 1890 1890 0 0 3 10 7 10 2 10 9 10 5 10 120 390 1890 1890 "
            + "STATE 0 3 10 7 10 2 10 9 10 5 10 120 390 1890 1890 " + atFirst);
        tells(Whole.IMAGES, "1 " + atFirst + " STATE " + atFirst);
    }

    private static void tells(String part, String text) {
        String told = Whole.part(Scenes.busy(), part);
        due.holds("the busy scene: " + part + " is " + told + ", due is " + text, told.equals(text));
    }

    private static void changesWithTape(String tape, String line, String... parts) {
        seen.add(line.split(" ")[0]);
        List<String> told = Arrays.asList(parts);
        for (String part : Whole.PARTS) {
            MarbleRun one = Scenes.busyWithTape(tape);
            Calls.answerLine(one, line);
            MarbleRun other = Scenes.busyWithTape(tape);
            boolean changed = !Whole.part(one, part).equals(Whole.part(other, part));
            due.is(line + " changes " + part, changed ? 1 : 0, told.contains(part) ? 1 : 0);
        }
    }

    private static void changes(String line, String... parts) {
        changesWithTape("b0", line, parts);
    }

    private static void rows() {
        due.by("Of the latest call with a ROW, or as(), .. the number of its FINDING; 0: it had none");
        changes("row 2 1 4", Whole.ROWS, Whole.STATUS);
        changes("row 0 0 0", Whole.ROWS, Whole.STATUS);
        changes("set 0 0 10", Whole.ROWS, Whole.STATUS);
        changes("set 0 1 10", Whole.STATUS);
        changes("copy 1 4 1 0 1", Whole.ROWS, Whole.STATUS);
        changes("copy 1 4 1 0 0", Whole.STATUS);
        changes("drop 0", Whole.ROWS, Whole.STATUS);
        due.by("A ROW of a LANE with n ITEMS, in place of what is there .. ITEM i becomes v .. A ROW is missing from now on");
        rowsBehind("row 0 1 2", "2 3 3 PLACE 3 3 3 3 0 PLACE - 0 0 PLACE 0 0 0 0 1 PLACE - 4464 2 70000 5 - -");
        rowsBehind("set 0 0 1", "2 0 0 3 PLACE 3 3 3 3 0 PLACE - 1 2 0 PLACE 0 0 0 0 1 PLACE - 112 3 70000 5 - -");
        rowsBehind("copy 1 4 1 0 1", "2 3 0 3 PLACE 0 3 3 3 0 PLACE - 0 2 0 PLACE 1 0 0 0 1 PLACE - 112 3 70000 5 - -");
        rowsBehind("drop 0", "1 NULL 3 3 3 3 0 PLACE - NULL 0 0 0 0 1 PLACE - NULL NULL 70000 5 - -");
    }

    /** The text has a stroke for the six rows that are missing all the time. */
    private static void rowsBehind(String line, String text) {
        MarbleRun x = Scenes.busy();
        Calls.answerLine(x, line);
        String told = Whole.part(x, Whole.ROWS);
        String full = text.replace("-", "NULL NULL NULL NULL NULL NULL");
        due.holds("behind " + line + " the rows are " + told + ", due is " + full, told.equals(full));
    }

    private static void texts() {
        due.by("A byte (0 to 255) comes behind the tape");
        changes("feed 0", Whole.TAPE);
        changesWithTape(GOOD, "feed 255", Whole.TAPE);
        due.by("A RUN that is read stands in place of the one before ..; no ACT can be undone.");
        changesWithTape(GOOD, "run", Whole.TAPE, Whole.RUN, Whole.ACTS);
        due.by("The tape, empty then, is read: .. -1000100 less the place of a FAULT: all stays.");
        changesWithTape("b0", "run", Whole.TAPE);
        changesWithTape("b", "run", Whole.TAPE, Whole.FAULT);
        due.by("The number of the latest FAULT; 0 before one.");
        changes("fault");
    }

    private static void acts() {
        due.by("ACTS (24 at most are kept ..; each can be undone, the latest first)");
        changes("undo", Whole.RUN, Whole.ACTS);
        changes("ticks 1", Whole.RUN, Whole.ACTS);
        changes("ticks 24", Whole.RUN, Whole.ACTS);
        changes("tip 0", Whole.RUN, Whole.ACTS);
        changes("tip 2", Whole.RUN, Whole.ACTS);
        changes("lead 1 0 9", Whole.RUN, Whole.ACTS);
        changes("lead 1 1 8", Whole.RUN, Whole.ACTS);
        changes("lead 1 0 3", Whole.ACTS);
        MarbleRun x = Scenes.busy();
        int inTray = Integer.numberOfTrailingZeros(x.stand(4) | x.stand(5));
        changes("again " + inTray + " 9", Whole.RUN, Whole.ACTS);
    }

    private static void images() {
        due.by("An IMAGE (0, 1) is kept of the RUN");
        changes("image 0", Whole.IMAGES);
        changes("image 1", Whole.IMAGES);
        due.by("The RUN is as an IMAGE kept it (no ACT can be undone then)");
        changes("restore 0", Whole.RUN, Whole.ACTS);
    }

    private static void asks() {
        due.by("A PIECE is taken as one of a KIND (0 .. 5): its number.");
        changes("as 3 1", Whole.STATUS);
        due.by("An ASK (0, 1) of a PIECE. .. THE TRACE is empty ahead of it.");
        changes("ask 0 0", Whole.TRACE);
        changes("ask 2 1", Whole.TRACE);
        due.by("A row tells .. KINDS .. POINTS .. of a PIECE now .. WEIGHTS .. of a MARBLE, BARS .. by which it is so.");
        changes("who 3 0 0 0 3", Whole.STATUS);
        changes("who 3 1 0 0 3", Whole.STATUS);
        changes("weights 4 0 1 0 5", Whole.STATUS);
        changes("weights 4 1 1 0 5", Whole.STATUS);
    }

    private static void tellers() {
        due.by("FORETOLD (nothing changes)");
        String[] lines = {"marble 0 2", "piece 1 3", "stand 1", "ahead 4 60", "stands 3 60 3", "trays 60 1", "when 3",
            "rest", "tips 40 0", "order 40 -1", "order 40 5", "leads 0 40 0", "sets 9 2", "share 0 999", "byTurns 4 20",
            "jam 4 30 5 0", "drawn 60 999999 1", "kind 0", "trace 0", "trace 16", "count 5", "status"};
        for (String line : lines) {
            changes(line);
        }
    }

    private static void everyCallIsThere() {
        due.by("The public face");
        due.is("calls that are looked at", seen.size(), 39 - 1);
    }
}
