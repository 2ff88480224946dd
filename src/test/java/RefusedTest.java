import java.util.Arrays;
import java.util.function.Supplier;

/**
 * What is refused, or found, changes nothing but status(); what is foretold changes nothing. Every refusal of
 * every call, at the number just beyond each bound and far beyond it, on an object that has something of
 * everything; behind it the object must be like one that was never asked.
 */
public final class RefusedTest {
    private static final Due due = new Due("RefusedTest");
    private static final int LEAST = Integer.MIN_VALUE, MOST = Integer.MAX_VALUE;

    public static void main(String[] args) {
        sceneIsBusy();
        due.by("What is refused, or found, changes nothing but status().");
        badRows();
        badThingsDone();
        badForetelling();
        badAsks();
        states();
        full();
        findings();
        ofNewObjects();
        firstThatFits();
        due.by("FORETOLD (nothing changes)");
        foretold();
        told();
        due.by("-1000100 less the place of a FAULT: all stays.");
        faults();
        due.end();
    }

    // ---- scenes

    private static MarbleRun withFullTape() {
        MarbleRun x = Due.told("b1;m1,0;g0,8,9;");
        for (int k = 0; k < 110; k++) {
            x.feed('b');
        }
        return x;
    }

    private static MarbleRun atTick(int tick) {
        MarbleRun x = Due.told("b1;m1,0;l0,8,9;");
        for (int left = tick; left > 0; left -= 24) {
            x.ticks(Math.min(24, left));
        }
        return x;
    }

    private static void sceneIsBusy() {
        MarbleRun x = Scenes.busy();
        for (int what = 1; what <= 5; what++) {
            due.is("the busy scene, stand " + what, Integer.bitCount(x.stand(what)), 1);
        }
        due.is("its acts", x.count(6), 6);
        due.is("its status", x.status(), 2);
        due.is("its fault", x.fault(), 2);
        due.is("its rows", x.count(0), 2);
        due.is("its trace", x.trace(5), 20);
    }

    // ---- how it is looked at

    private static void unchanged(Supplier<MarbleRun> scene, String name, int... args) {
        for (String part : Whole.PARTS) {
            MarbleRun one = scene.get();
            Calls.answer(one, name, args);
            String then = Whole.part(one, part);
            String before = Whole.part(scene.get(), part);
            due.holds(Calls.told(name, args) + " leaves " + part, part.equals(Whole.STATUS) || then.equals(before));
        }
    }

    private static void refused(Supplier<MarbleRun> scene, long answer, String name, int... args) {
        MarbleRun x = scene.get();
        boolean found = answer <= Due.NULL && answer >= Due.STORE;
        long status = found ? -1000010 - answer : x.status();
        String call = Calls.told(name, args);
        due.is(call, Calls.answer(x, name, args), answer);
        due.is("status behind " + call, x.status(), status);
        unchanged(scene, name, args);
    }

    /** A good call of the busy scene, but one of its numbers is each of those beyond, in turn. */
    private static void beyond(String name, int[] good, int at, int... bad) {
        for (int v : bad) {
            int[] args = good.clone();
            args[at] = v;
            refused(Scenes::busy, Due.BAD, name, args);
        }
    }

    private static int[] of(int... numbers) {
        return numbers;
    }

    // ---- BAD

    private static void badRows() {
        beyond("row", of(2, 1, 4), 0, -1, 8, LEAST, MOST);
        beyond("row", of(2, 1, 4), 1, -1, 3, LEAST, MOST);
        beyond("row", of(2, 1, 4), 2, 41, MOST);
        beyond("set", of(0, 0, 1), 0, -1, 8, LEAST, MOST);
        beyond("copy", of(0, 0, 0, 1, 1), 0, -1, 8, LEAST, MOST);
        beyond("copy", of(0, 0, 0, 1, 1), 2, -1, 8, LEAST, MOST);
        beyond("drop", of(0), 0, -1, 8, LEAST, MOST);
        beyond("feed", of('b'), 0, -1, 256, LEAST, MOST);
    }

    private static void badThingsDone() {
        beyond("ticks", of(1), 0, 0, -1, 25, LEAST, MOST);
        beyond("tip", of(0), 0, -1, 4, 8, LEAST, MOST);
        beyond("lead", of(1, 0, 9), 0, -1, 4, 8, LEAST, MOST);
        beyond("lead", of(1, 0, 9), 1, -1, 2, LEAST, MOST);
        beyond("lead", of(1, 0, 9), 2, 1, 0, -1, 10, LEAST, MOST);
        beyond("again", of(0, 1), 0, -1, 5, 6, LEAST, MOST);
        beyond("again", of(0, 1), 1, 0, -1, 10, LEAST, MOST);
        beyond("marble", of(0, 0), 0, -1, 5, 6, LEAST, MOST);
        beyond("marble", of(0, 0), 1, -1, 3, LEAST, MOST);
        beyond("piece", of(0, 0), 0, -1, 4, 8, LEAST, MOST);
        beyond("piece", of(0, 0), 1, -1, 7, LEAST, MOST);
        beyond("stand", of(0), 0, -1, 6, LEAST, MOST);
    }

    private static void badForetelling() {
        beyond("ahead", of(0, 0), 0, -1, 5, 6, LEAST, MOST);
        beyond("ahead", of(0, 0), 1, -1, 61, LEAST, MOST);
        beyond("stands", of(0, 0, 0), 0, -1, 4, 8, LEAST, MOST);
        beyond("stands", of(0, 0, 0), 1, -1, 61, LEAST, MOST);
        beyond("stands", of(0, 0, 0), 2, -1, 4, LEAST, MOST);
        beyond("trays", of(0, 0), 0, -1, 61, LEAST, MOST);
        beyond("trays", of(0, 0), 1, -1, 2, LEAST, MOST);
        beyond("when", of(0), 0, -1, 5, 6, LEAST, MOST);
        beyond("tips", of(1, 0), 0, 0, -1, 41, LEAST, MOST);
        beyond("tips", of(1, 0), 1, -1, 2, LEAST, MOST);
        beyond("order", of(1, 0), 0, 0, -1, 41, LEAST, MOST);
        beyond("order", of(1, 0), 1, -2, LEAST);
        beyond("leads", of(0, 1, 0), 0, -1, 4, 8, LEAST, MOST);
        beyond("leads", of(0, 1, 0), 1, 0, -1, 41, LEAST, MOST);
        beyond("leads", of(0, 1, 0), 2, -1, 2, LEAST, MOST);
        beyond("sets", of(0, 0), 0, -1, 55, LEAST, MOST);
        beyond("sets", of(0, 0), 1, -1, 3, LEAST, MOST);
        beyond("share", of(0, 0), 0, -1, 4, 8, LEAST, MOST);
        beyond("share", of(0, 0), 1, -1, 1000, LEAST, MOST);
        beyond("byTurns", of(0, 1), 0, -1, 5, LEAST, MOST);
        beyond("byTurns", of(0, 1), 1, 0, -1, 21, LEAST, MOST);
        for (String name : new String[] {"who", "weights"}) {
            beyond(name, of(0, 0, 0, 0, 1), 0, -1, name.equals("who") ? 4 : 5, 8, LEAST, MOST);
            beyond(name, of(0, 0, 0, 0, 1), 1, -1, 2, LEAST, MOST);
            beyond(name, of(0, 0, 0, 0, 1), 2, -1, 8, LEAST, MOST);
            beyond(name, of(0, 0, 0, 0, 1), 4, 0, -1, 13, LEAST, MOST);
        }
        beyond("jam", of(0, 0, 0, 0), 0, -1, 5, 6, LEAST, MOST);
        beyond("jam", of(0, 0, 0, 0), 1, -1, 31, LEAST, MOST);
        beyond("jam", of(0, 0, 0, 0), 2, -1, 11, LEAST, MOST);
        beyond("jam", of(0, 0, 0, 0), 3, -1, 2, LEAST, MOST);
        beyond("drawn", of(0, 1, 0), 0, -1, 61, LEAST, MOST);
        beyond("drawn", of(0, 1, 0), 1, 0, -1, 1000000, LEAST, MOST);
        beyond("drawn", of(0, 1, 0), 2, -1, 2, LEAST, MOST);
        beyond("image", of(1), 0, -1, 2, LEAST, MOST);
        beyond("restore", of(0), 0, -1, 2, LEAST, MOST);
    }

    private static void badAsks() {
        beyond("kind", of(0), 0, -1, 4, 8, LEAST, MOST);
        beyond("as", of(0, 0), 0, -1, 4, 8, LEAST, MOST);
        beyond("as", of(0, 0), 1, -1, 6, LEAST, MOST);
        beyond("ask", of(0, 0), 0, -1, 4, 8, LEAST, MOST);
        beyond("ask", of(0, 0), 1, -1, 2, LEAST, MOST);
        beyond("count", of(0), 0, -1, 8, LEAST, MOST);
    }

    // ---- STATE, FULL, FINDINGS

    private static void states() {
        MarbleRun x = Scenes.busy();
        for (int m = 0; m < 5; m++) {
            int where = x.marble(m, 2);
            if (where != 8 && where != 9) {
                refused(Scenes::busy, Due.STATE, "again", m, 1);
            }
        }
        refused(Scenes::busy, Due.STATE, "restore", 1);
        refused(() -> Due.told("b1;m1,0;g0,8,9;"), Due.STATE, "undo");
    }

    private static void full() {
        refused(RefusedTest::withFullTape, Due.FULL, "feed", 'b');
        refused(RefusedTest::withFullTape, Due.BAD, "feed", 256);
        refused(() -> atTick(999), Due.FULL, "ticks", 1);
        refused(() -> atTick(999), Due.FULL, "ticks", 24);
        refused(() -> atTick(999), Due.BAD, "ticks", 25);
        refused(() -> atTick(976), Due.FULL, "ticks", 24);
    }

    private static void findings() {
        refused(Scenes::busy, Due.SIZE, "row", 0, 0, -1);
        refused(Scenes::busy, Due.SIZE, "row", 7, 2, LEAST);
        refused(Scenes::busy, Due.NULL, "set", 2, 0, 1);
        refused(Scenes::busy, Due.PLACE, "set", 0, 3, 1);
        refused(Scenes::busy, Due.PLACE, "set", 0, -1, 1);
        refused(Scenes::busy, Due.NULL, "copy", 2, 0, 0, 0, 1);
        refused(Scenes::busy, Due.NULL, "copy", 0, 0, 2, 0, 1);
        refused(Scenes::busy, Due.STORE, "copy", 0, 0, 1, 0, 1);
        refused(Scenes::busy, Due.PLACE, "copy", 1, 4, 1, 0, 2);
        refused(Scenes::busy, Due.PLACE, "copy", 1, 0, 1, 4, 2);
        refused(Scenes::busy, Due.PLACE, "copy", 1, 4, 1, 0, -1);
        refused(Scenes::busy, Due.NULL, "drop", 2);
        for (String name : new String[] {"who", "weights"}) {
            refused(Scenes::busy, Due.NULL, name, 0, 0, 2, 0, 1);
            refused(Scenes::busy, Due.PLACE, name, 0, 0, 0, 3, 1);
            refused(Scenes::busy, Due.PLACE, name, 0, 0, 0, 0, 4);
            refused(Scenes::busy, Due.PLACE, name, 0, 0, 0, -1, 1);
        }
        refused(Scenes::busy, Due.KIND, "as", 0, 5);
    }

    /** Without a RUN: what asks for it by STATE does so whatever its numbers are; all others are BAD. */
    private static void ofNewObjects() {
        String[] states = {"ticks 1", "stand 1", "trays 2", "rest 0", "tips 2", "order 2", "sets 2", "byTurns 2", "drawn 3",
            "undo 0"};
        for (String line : states) {
            String name = line.split(" ")[0];
            int many = Integer.parseInt(line.split(" ")[1]);
            for (int v : new int[] {LEAST, -1, 0, 1, MOST}) {
                int[] args = new int[many];
                Arrays.fill(args, v);
                refused(MarbleRun::new, Due.STATE, name, args);
            }
        }
        refused(MarbleRun::new, Due.STATE, "image", 0);
        refused(MarbleRun::new, Due.STATE, "image", 1);
        refused(MarbleRun::new, Due.BAD, "image", 2);
        refused(MarbleRun::new, Due.BAD, "image", -1);
        refused(MarbleRun::new, Due.STATE, "restore", 0);
        refused(MarbleRun::new, Due.STATE, "restore", 1);
        refused(MarbleRun::new, Due.BAD, "restore", 2);
        String[] bad = {"tip 1", "lead 3", "again 2", "marble 2", "piece 2", "ahead 2", "stands 3", "when 1", "leads 3",
            "share 2", "who 5", "weights 5", "jam 4", "kind 1", "as 2", "ask 2"};
        for (String line : bad) {
            int[] args = new int[Integer.parseInt(line.split(" ")[1])];
            refused(MarbleRun::new, Due.BAD, line.split(" ")[0], args);
        }
        // The row is there, its place, too; what is missing is the piece, the marble.
        refused(RefusedTest::withARow, Due.BAD, "who", 0, 0, 0, 0, 1);
        refused(RefusedTest::withARow, Due.BAD, "weights", 0, 0, 0, 0, 1);
    }

    private static MarbleRun withARow() {
        MarbleRun x = new MarbleRun();
        x.row(0, 0, 1);
        return x;
    }

    private static void firstThatFits() {
        due.by("the first of these that fits, but as told: BAD .., STATE .., FULL .., then FINDINGS, of several the first");
        refused(Scenes::busy, Due.BAD, "row", 8, 0, -1);
        refused(Scenes::busy, Due.BAD, "row", 0, 3, -1);
        refused(Scenes::busy, Due.BAD, "set", 8, -1, 1);
        refused(Scenes::busy, Due.NULL, "set", 2, -1, 1);
        refused(Scenes::busy, Due.BAD, "copy", 2, -1, 8, -1, -1);
        refused(Scenes::busy, Due.BAD, "copy", -1, -1, 2, -1, -1);
        refused(Scenes::busy, Due.NULL, "copy", 2, -1, 1, -1, -1);
        refused(Scenes::busy, Due.NULL, "copy", 0, -1, 2, -1, -1);
        refused(Scenes::busy, Due.STORE, "copy", 0, -1, 1, -1, -1);
        refused(Scenes::busy, Due.STORE, "copy", 0, 0, 1, 0, 0);
        refused(Scenes::busy, Due.BAD, "again", 3, 0);
        refused(Scenes::busy, Due.BAD, "again", 3, 10);
        for (String name : new String[] {"who", "weights"}) {
            refused(Scenes::busy, Due.BAD, name, 8, 0, 2, -1, 1);
            refused(Scenes::busy, Due.BAD, name, 0, 2, 2, -1, 1);
            refused(Scenes::busy, Due.BAD, name, 0, 0, 2, -1, 13);
            refused(Scenes::busy, Due.BAD, name, 0, 0, 0, 3, 0);
            refused(Scenes::busy, Due.NULL, name, 0, 0, 2, -1, 1);
        }
        refused(Scenes::busy, Due.BAD, "as", 4, 5);
        refused(Scenes::busy, Due.BAD, "as", 0, 6);
    }

    // ---- what changes nothing though it is not refused

    private static void foretold() {
        String[] most = {"ahead 4 60", "stands 3 60 3", "trays 60 1", "when 3", "rest", "tips 40 0", "order 40 -1",
            "order 40 4", "order 40 5", "leads 0 40 0", "sets 54 2", "share 3 999", "byTurns 4 20", "jam 4 30 10 1",
            "jam 4 30 5 0", "drawn 60 999999 1", "drawn 60 1 0"};
        for (String line : most) {
            MarbleRun x = Scenes.busy();
            Calls.answerLine(x, line);
            due.is("status behind " + line, x.status(), 2);
            unchanged(Scenes::busy, line.split(" ")[0], Calls.numbersOf(line));
        }
        for (int which = 0; which <= 1; which++) {
            MarbleRun x = Scenes.busy();
            x.who(3, which, 0, 0, 3);
            due.is("status behind who", x.status(), 0);
            unchanged(Scenes::busy, "who", 3, which, 0, 0, 3);
            unchanged(Scenes::busy, "weights", 4, which, 1, 0, 5);
        }
    }

    private static void told() {
        for (int what = 0; what <= 7; what++) {
            unchanged(Scenes::busy, "count", what);
            unchanged(Scenes::busy, "piece", 1, Math.min(what, 6));
            unchanged(Scenes::busy, "stand", Math.min(what, 5));
            unchanged(Scenes::busy, "as", Math.min(what, 3), 0);
            unchanged(Scenes::busy, "trace", what);
        }
        for (int what = 0; what <= 2; what++) {
            unchanged(Scenes::busy, "marble", 2, what);
        }
        unchanged(Scenes::busy, "kind", 2);
        unchanged(Scenes::busy, "status");
        unchanged(Scenes::busy, "fault");
    }

    /** A text with a FAULT empties the tape, and leaves all else as if it had never come. */
    private static void faults() {
        MarbleRun x = Scenes.busy();
        due.is("run()", x.run(), -1000101);
        due.is("status behind it", x.status(), 2);
        for (String part : Whole.PARTS) {
            MarbleRun one = Scenes.busy();
            one.run();
            MarbleRun other = Scenes.busyWithTape("");
            due.holds("it leaves " + part, Whole.part(one, part).equals(Whole.part(other, part)));
        }
    }
}
