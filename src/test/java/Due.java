/** Counts the answers of one test, prints the wrong ones, ends the test with exit code 1 if there are any. */
final class Due {
    static final int NONE = -1000000, BAD = -1000001, STATE = -1000002, FULL = -1000003;
    static final int NULL = -1000011, PLACE = -1000012, KIND = -1000013, SIZE = -1000014, STORE = -1000015;

    private final String test;
    private String sentence = "";
    private int asked = 0;
    private int wrong = 0;

    Due(String test) {
        this.test = test;
    }

    /** The words of the document that the next answers are about: they stand ahead of each wrong one. */
    void by(String words) {
        sentence = " [" + words + "]";
    }

    void is(String what, long got, long due) {
        asked++;
        if (got != due) {
            wrong++;
            System.out.println(test + sentence + ": " + what + " answered " + got + ", due is " + due);
        }
    }

    void holds(String what, boolean fact) {
        is(what, fact ? 1 : 0, 1);
    }

    void end() {
        System.out.println(test + ": " + (asked - wrong) + " of " + asked + " answers are as due");
        if (wrong > 0 || asked == 0) {
            System.exit(1);
        }
    }

    static int read(MarbleRun x, String text) {
        for (int i = 0; i < text.length(); i++) {
            x.feed(text.charAt(i));
        }
        return x.run();
    }

    /** A new object with this run. */
    static MarbleRun told(String text) {
        MarbleRun x = new MarbleRun();
        if (read(x, text) < 1) {
            System.out.println("a test's own text is not read: " + text);
            System.exit(1);
        }
        return x;
    }

    /** A row of ints with these items. */
    static void fill(MarbleRun x, int row, int... items) {
        x.row(row, 2, items.length);
        for (int i = 0; i < items.length; i++) {
            x.set(row, i, items[i]);
        }
    }
}
