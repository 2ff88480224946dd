import java.util.ArrayList;
import java.util.List;

/**
 * Every call with every choice of numbers at the bounds, just beyond them and far beyond them, in several
 * states, each answered by the class and by the model: which refusal comes first, and that none throws.
 */
public final class EdgesTest {
    private static final Due due = new Due("EdgesTest");
    /** A call's name and the least and the most of its numbers; P and M stand for the last piece and marble. */
    private static final String[] CALL_TABLE = {
        "row 0 7 0 2 0 40", "set 0 7 0 39 -128 127", "copy 0 7 0 40 0 7 0 40 0 40", "drop 0 7", "feed 0 255", "run",
        "fault", "undo", "ticks 1 24", "tip 0 P", "lead 0 P 0 1 1 9", "again 0 M 1 9", "marble 0 M 0 2", "piece 0 P 0 6",
        "stand 0 5", "ahead 0 M 0 60", "stands 0 P 0 60 0 3", "trays 0 60 0 1", "when 0 M", "rest", "tips 1 40 0 1",
        "order 1 40 -1 M", "leads 0 P 1 40 0 1", "sets 0 54 0 2", "share 0 P 0 999", "byTurns 0 4 1 20",
        "who 0 P 0 1 0 7 0 39 1 12", "weights 0 M 0 1 0 7 0 39 1 12", "jam 0 M 0 30 0 10 0 1", "drawn 0 60 1 999999 0 1",
        "image 0 1", "restore 0 1", "kind 0 P", "as 0 P 0 5", "ask 0 P 0 1", "trace 0 15", "count 0 7", "status"};
    private static final String[] TEXTS = {"", "b1;m1,0;g0,8,9;",
        "b5;m3,0;m7,0;m2,1;m9,20;m5,2;g0,1,2;h0,3,9;s1,8,9;l1,8,9;w0,9,8;",
        "b9;m9,0;m8,0;m7,1;m6,2;m5,3;m4,20;h0,1,2;g1,2,3;l0,3,4;s0,4,5;w1,5,6;h1,6,7;g0,7,9;l1,8,9;"};

    private MarbleRun x;
    private Model model;
    private int made = 0;

    public static void main(String[] args) {
        for (String text : TEXTS) {
            for (int ticks = 0; ticks <= (text.isEmpty() ? 0 : 4); ticks += 2) {
                new EdgesTest().oneState(text, ticks);
            }
        }
        due.end();
    }

    private void oneState(String text, int ticks) {
        for (String line : CALL_TABLE) {
            String[] parts = line.split(" ");
            begin(text, ticks);
            every(parts, new int[(parts.length - 1) / 2], 0, text, ticks);
        }
    }

    /** A new pair: what changes a run stays small, and no object is asked more than 512 times. */
    private void begin(String text, int ticks) {
        x = new MarbleRun();
        model = new Model();
        made = 0;
        for (int i = 0; i < text.length(); i++) {
            same("feed", text.charAt(i));
        }
        same("run");
        for (int row = 0; row <= 7; row += 7) {
            same("row", row, row / 4, 40);
            same("set", row, 39, 1);
            same("set", row, 0, 10);
        }
        for (int t = 0; t < ticks; t++) {
            same("ticks", 1);
        }
    }

    private void every(String[] parts, int[] args, int at, String text, int ticks) {
        if (at == args.length) {
            if (made > 450) {
                begin(text, ticks);
            }
            same(parts[0], args);
            same("status");
            return;
        }
        for (int v : edges(number(parts[1 + 2 * at]), number(parts[2 + 2 * at]))) {
            args[at] = v;
            every(parts, args, at + 1, text, ticks);
        }
    }

    private int number(String told) {
        if (told.equals("P") || told.equals("M")) {
            return Math.max(0, (int) model.call("count", told.equals("P") ? 1 : 2) - 1);
        }
        return Integer.parseInt(told);
    }

    private static List<Integer> edges(int least, int most) {
        List<Integer> edges = new ArrayList<>(List.of(Integer.MIN_VALUE, least - 1, least));
        for (int v : new int[] {least + 1, most, most + 1, Integer.MAX_VALUE}) {
            if (!edges.contains(v)) {
                edges.add(v);
            }
        }
        return edges;
    }

    private void same(String name, int... args) {
        made++;
        due.is(Calls.told(name, args), Calls.answer(x, name, args), model.call(name, args));
    }
}
