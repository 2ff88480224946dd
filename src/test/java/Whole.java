/**
 * All that the calls can tell of an object but its status, as a text: two objects that tell the same are alike.
 * It is told in portions, each on an object of its own, because much of it can only be seen by changing it and
 * because an object answers 512 calls.
 */
final class Whole {
    static final int PORTIONS = 4;

    private Whole() {
    }

    static String portion(MarbleRun x, int k) {
        StringBuilder s = new StringBuilder();
        switch (k) {
            case 0: tellAll(x, s); break;
            case 1: tellActs(x, s); break;
            case 2: tellImages(x, s); break;
            default: tellRows(x, s); break;
        }
        return s.toString();
    }

    private static void tell(StringBuilder s, long answer) {
        s.append(answer).append(' ');
    }

    private static void tellAll(MarbleRun x, StringBuilder s) {
        tell(s, x.fault());
        for (int i = 0; i <= 16; i++) {
            tell(s, x.trace(i));
        }
        tell(s, x.count(0));
        tell(s, x.count(6));
        tellRun(x, s);
        // What is on the tape shows by the place of its fault.
        tell(s, x.count(7));
        tell(s, x.run());
    }

    private static void tellRun(MarbleRun x, StringBuilder s) {
        for (int what = 1; what <= 5; what++) {
            tell(s, x.count(what));
        }
        tell(s, x.stand(0));
        for (int m = 0; m < x.count(2); m++) {
            for (int what = 0; what <= 2; what++) {
                tell(s, x.marble(m, what));
            }
        }
        for (int p = 0; p < x.count(1); p++) {
            tell(s, x.kind(p));
            for (int what = 0; what <= 6; what++) {
                tell(s, x.piece(p, what));
            }
        }
    }

    private static void tellActs(MarbleRun x, StringBuilder s) {
        int left = 0;
        while (left >= 0) {
            left = x.undo();
            tell(s, left);
            tell(s, x.count(3));
            for (int m = 0; m < x.count(2); m++) {
                tell(s, x.marble(m, 0));
                tell(s, x.marble(m, 2));
            }
            for (int p = 0; p < x.count(1); p++) {
                tell(s, 1000 * x.piece(p, 0) + 100 * x.piece(p, 1) + 10 * x.piece(p, 2));
            }
        }
        tellRun(x, s);
    }

    private static void tellImages(MarbleRun x, StringBuilder s) {
        for (int k = 0; k <= 1; k++) {
            tell(s, x.restore(k));
            tellRun(x, s);
        }
    }

    /** The first items, of which those that are not 0, 1 or 10 look alike; each row's lane and how many it has. */
    private static void tellRows(MarbleRun x, StringBuilder s) {
        x.run();
        for (String text : new String[] {"b1;m1,20;g0,8,9;", "b1;m1,0;g0,8,9;"}) {
            Due.read(x, text);
            for (int row = 0; row < 8; row++) {
                for (int i = 0; i < 5; i++) {
                    tell(s, x.who(0, 1, row, i, 1));
                }
            }
        }
        for (int row = 0; row < 8; row++) {
            tell(s, x.set(row, 0, 70000));
            tell(s, x.drop(row));
        }
    }
}
