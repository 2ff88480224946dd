import java.util.Random;

/** All promises at once: long runs of drawn calls, each answered by the class and by the model. */
public final class ModelTest {
    private static final int RUNS = 400, CALLS = 512;
    /** A call's name, how often it is drawn, and the least and the most of each of its numbers. */
    private static final String[] CALL_TABLE = {
        "row 6 0 7 0 2 0 12", "set 6 0 7 0 12 -70000 70000", "copy 8 0 7 0 8 0 7 0 8 0 5", "drop 1 0 7",
        "feed 1 0 255", "run 1", "fault 2", "undo 12", "ticks 14 1 6", "tip 10 0 7", "lead 10 0 7 0 1 1 9",
        "again 24 0 5 1 9", "marble 8 0 5 0 2", "piece 12 0 7 0 6", "stand 8 0 5", "ahead 8 0 5 0 30",
        "stands 10 0 7 0 30 0 3", "trays 6 0 30 0 1", "when 6 0 5", "rest 4", "tips 3 1 40 0 1", "order 3 1 40 -1 5",
        "leads 6 0 7 1 40 0 1", "sets 10 0 54 0 2", "share 8 0 7 0 999", "byTurns 2 0 4 1 20",
        "who 6 0 7 0 1 0 7 0 6 1 6", "weights 6 0 5 0 1 0 7 0 6 1 6", "jam 3 0 5 0 30 0 10 0 1",
        "drawn 8 0 60 1 999999 0 1", "image 2 0 1", "restore 2 0 1", "kind 4 0 7", "as 8 0 7 0 5", "ask 10 0 7 0 1",
        "trace 8 0 15", "count 10 0 7", "status 8"};

    private final Random draw = new Random(20261117);
    private MarbleRun x;
    private Model model;
    private StringBuilder history;
    private int wrong = 0, asked = 0;

    public static void main(String[] args) {
        ModelTest test = new ModelTest();
        for (int run = 0; run < RUNS && test.wrong == 0; run++) {
            test.oneRun(run);
        }
        System.out.println("ModelTest: " + (test.asked - test.wrong) + " of " + test.asked + " answers are as the model's");
        if (test.wrong > 0) {
            System.exit(1);
        }
    }

    private void oneRun(int run) {
        x = new MarbleRun();
        model = new Model();
        history = new StringBuilder();
        if (run % 10 != 0) {
            tell(textOf());
        }
        int left = CALLS - 120;
        while (left > 0 && wrong == 0) {
            int kind = draw.nextInt(100);
            if (kind < 1) {
                String text = draw.nextBoolean() ? textOf() : spoilt(textOf());
                tell(text);
                left -= text.length() + 1;
            } else if (kind < 6) {
                left -= watch();
            } else {
                drawnCall();
                left--;
            }
        }
        dump();
    }

    private long same(String name, int... args) {
        long got = Calls.answer(x, name, args);
        long due = model.call(name, args);
        asked++;
        history.append(Calls.told(name, args)).append(' ').append(got).append('\n');
        if (got != due && wrong == 0) {
            wrong++;
            System.out.print(history);
            System.out.println("ModelTest: the last call answered " + got + ", the model says " + due);
        }
        return got;
    }

    private void tell(String text) {
        for (int i = 0; i < text.length(); i++) {
            same("feed", text.charAt(i));
        }
        same("run");
        same("fault");
    }

    private int between(int low, int high) {
        return low + draw.nextInt(high - low + 1);
    }

    private String textOf() {
        StringBuilder s = new StringBuilder("b").append(between(1, 9)).append(';');
        int marbles = draw.nextInt(4) == 0 ? between(1, 6) : between(4, 6);
        int spread = draw.nextInt(3) == 0 ? 20 : 6;
        for (int m = 0; m < marbles; m++) {
            s.append('m').append(between(1, 9)).append(',').append(between(0, spread)).append(';');
        }
        int pieces = draw.nextInt(3) == 0 ? between(1, 8) : between(5, 8);
        for (int p = 0; p < pieces; p++) {
            s.append("glhsw".charAt(draw.nextInt(5))).append(between(0, 1));
            for (int side = 0; side < 2; side++) {
                int to = draw.nextInt(4) == 0 ? between(8, 9) : between(p + 1, Math.min(9, p + 3));
                s.append(',').append(to);
            }
            s.append(';');
        }
        return s.toString();
    }

    private String spoilt(String text) {
        StringBuilder s = new StringBuilder(text);
        int at = draw.nextInt(s.length());
        char other = "bmglhswxa,;0123456789 \u00ff".charAt(draw.nextInt(23));
        switch (draw.nextInt(4)) {
            case 0: s.deleteCharAt(at); break;
            case 1: s.insert(at, other); break;
            case 2: s.setCharAt(at, other); break;
            default: s.setLength(at); break;
        }
        return s.substring(0, Math.min(110, s.length()));
    }

    private void drawnCall() {
        int all = 0;
        for (String line : CALL_TABLE) {
            all += Integer.parseInt(line.split(" ")[1]);
        }
        int at = draw.nextInt(all);
        for (String line : CALL_TABLE) {
            String[] parts = line.split(" ");
            at -= Integer.parseInt(parts[1]);
            if (at < 0) {
                same(parts[0], numbers(parts));
                return;
            }
        }
    }

    private int[] numbers(String[] parts) {
        int[] args = new int[(parts.length - 2) / 2];
        for (int i = 0; i < args.length; i++) {
            int low = Integer.parseInt(parts[2 + 2 * i]);
            int high = Integer.parseInt(parts[3 + 2 * i]);
            args[i] = between(low, high);
            int odd = draw.nextInt(60);
            if (odd == 0) {
                args[i] = high + 1 + draw.nextInt(30);
            } else if (odd == 1) {
                args[i] = low - 1;
            } else if (odd == 2) {
                args[i] = draw.nextInt();
            } else if (odd == 3) {
                args[i] = draw.nextBoolean() ? Integer.MAX_VALUE : Integer.MIN_VALUE;
            }
        }
        return args;
    }

    /** A row as the trays will really tell, but for a change now and then, so that something fits it. */
    private int watch() {
        if (model.call("rest") < 0) {
            return 1;
        }
        int n = between(1, 12);
        int row = between(0, 7);
        int from = between(0, 3);
        same("row", row, between(0, 2), n + from);
        for (int t = 1; t <= n; t++) {
            int told = Long.bitCount(model.call("trays", t, 0)) + 10 * Long.bitCount(model.call("trays", t, 1));
            same("set", row, from + t - 1, draw.nextInt(40) == 0 ? told + 9 : told);
        }
        for (int k = 0; k < 4; k++) {
            same("who", between(0, 7), k % 2, row, from, n);
            same("weights", between(0, 5), k % 2, row, from, n);
        }
        same("status");
        return n + 10;
    }

    private void dump() {
        for (int what = 0; what <= 7; what++) {
            same("count", what);
            same("stand", what);
            same("trace", what);
            for (int k = 0; k < 8; k++) {
                same("piece", k, what);
                same("marble", k, what);
            }
        }
    }
}
