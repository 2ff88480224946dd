/**
 * All that the calls can tell of an object, part by part, as texts: two objects of which all parts are alike are
 * alike. Each part is told of an object of its own, because much of it can only be seen by changing it and
 * because an object answers 512 calls.
 */
final class Whole {
    static final String STATUS = "status", FAULT = "fault", TRACE = "trace", ROWS = "rows", TAPE = "tape",
        RUN = "run", ACTS = "acts", IMAGES = "images";
    static final String[] PARTS = {STATUS, FAULT, TRACE, ROWS, TAPE, RUN, ACTS, IMAGES};

    private Whole() {
    }

    static String part(MarbleRun x, String name) {
        StringBuilder s = new StringBuilder();
        switch (name) {
            case STATUS: tell(s, x.status()); break;
            case FAULT: tell(s, x.fault()); break;
            case TRACE: tellTrace(x, s); break;
            case ROWS: tellRows(x, s); break;
            case TAPE: tellTape(x, s); break;
            case RUN: tellRun(x, s); break;
            case ACTS: tellActs(x, s); break;
            case IMAGES: tellImages(x, s); break;
            default: throw new IllegalArgumentException(name);
        }
        return s.toString();
    }

    private static void tell(StringBuilder s, long answer) {
        s.append(s.length() > 0 ? " " : "").append(wordOf(answer));
    }

    private static String wordOf(long answer) {
        switch ((int) answer) {
            case Due.NONE: return "NONE";
            case Due.STATE: return "STATE";
            case Due.NULL: return "NULL";
            case Due.PLACE: return "PLACE";
            default: return Long.toString(answer);
        }
    }

    private static void tellTrace(MarbleRun x, StringBuilder s) {
        int i = 0;
        while (i < 16 && x.trace(i) != Due.NONE) {
            tell(s, x.trace(i));
            i++;
        }
        tell(s, x.trace(i));
    }

    /** What is on the tape shows by the place of its fault, or by the run that is read of it. */
    private static void tellTape(MarbleRun x, StringBuilder s) {
        tell(s, x.count(7));
        int answer = x.run();
        tell(s, answer);
        if (answer > 0) {
            tellRun(x, s);
        } else {
            tell(s, x.fault());
        }
    }

    private static void tellRun(MarbleRun x, StringBuilder s) {
        for (int what = 1; what <= 5; what++) {
            tell(s, x.count(what));
        }
        tell(s, x.stand(0));
        for (int m = 0; m < x.count(2); m++) {
            for (int what = 0; what <= 2; what++) {
                tell(s, x.marble(m, what));
            }
        }
        for (int p = 0; p < x.count(1); p++) {
            tell(s, x.kind(p));
            for (int what = 0; what <= 6; what++) {
                tell(s, x.piece(p, what));
            }
        }
        tell(s, x.trays(3, 1));
        tell(s, x.trays(60, 0));
        tell(s, x.trays(60, 1));
    }

    private static void tellActs(MarbleRun x, StringBuilder s) {
        tell(s, x.count(6));
        int left = 0;
        while (left >= 0) {
            left = x.undo();
            tell(s, left);
            tell(s, x.count(3));
            for (int m = 0; m < x.count(2); m++) {
                tell(s, x.marble(m, 0));
                tell(s, x.marble(m, 2));
            }
            for (int p = 0; p < x.count(1); p++) {
                tell(s, 1000 * x.piece(p, 0) + 100 * x.piece(p, 1) + 10 * x.piece(p, 2));
            }
        }
        tellRun(x, s);
    }

    private static void tellImages(MarbleRun x, StringBuilder s) {
        for (int k = 0; k <= 1; k++) {
            tell(s, x.restore(k));
            tellRun(x, s);
        }
    }

    /** The items, of which those that are not 0, 1 or 10 look alike; each row's lane and how many it has. */
    private static void tellRows(MarbleRun x, StringBuilder s) {
        tell(s, x.count(0));
        x.run();
        for (String text : new String[] {"b1;m1,20;g0,8,9;", "b1;m1,0;g0,8,9;"}) {
            Due.read(x, text);
            for (int row = 0; row < 8; row++) {
                int i = 0;
                while (i < 40 && x.who(0, 1, row, i, 1) >= 0) {
                    tell(s, x.who(0, 1, row, i, 1));
                    i++;
                }
                tell(s, x.who(0, 1, row, i, 1));
            }
        }
        for (int row = 0; row < 8; row++) {
            tell(s, x.set(row, 0, 70000));
            tell(s, x.drop(row));
        }
    }
}
