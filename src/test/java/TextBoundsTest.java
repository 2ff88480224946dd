/** The bounds of texts (the tape, tokens, numbers, faults; promises 1 and 6 to 8), sentence by sentence. */
public final class TextBoundsTest {
    private static final Due due = new Due("TextBoundsTest");
    private static final String LEAST_TEXT = "b5;m3,0;g0,8,9;";
    private static final String SORTS = "glhsw";

    public static void main(String[] args) {
        noRunAtFirst();
        tapeIsFull();
        readsAllOfTheTape();
        bytes();
        letters();
        figures();
        everyByteAtEveryPlace();
        bars();
        weights();
        startsOfMarbles();
        points();
        sides();
        piecesThatThereAreNot();
        howManyMarbles();
        howManyPieces();
        oneOfEachAtLeast();
        theEnd();
        threeFigures();
        firstToken();
        leastOfOneToken();
        tapeIsEmptyThen();
        inPlaceOfTheOneBefore();
        latestFault();
        due.end();
    }

    private static void reads(String text, int pieces) {
        due.is("'" + text + "'", Due.read(new MarbleRun(), text), pieces);
    }

    private static void fails(String text, int number, int place) {
        MarbleRun x = new MarbleRun();
        due.is("'" + text + "'", Due.read(x, text), -1000100 - place);
        due.is("fault of '" + text + "'", x.fault(), number);
        due.is("RUN of '" + text + "'", x.rest(), Due.STATE);
    }

    private static void noRunAtFirst() {
        due.by("MarbleRun(): No RUN.");
        MarbleRun x = new MarbleRun();
        due.is("ticks", x.ticks(1), Due.STATE);
        due.is("pieces", x.count(1), 0);
        due.is("marbles", x.count(2), 0);
        due.is("piece 0", x.piece(0, 0), Due.BAD);
        due.is("marble 0", x.marble(0, 0), Due.BAD);
        due.is("image", x.image(0), Due.STATE);
    }

    private static void tapeIsFull() {
        due.by("THE TAPE has at most 110 bytes, that come one by one");
        MarbleRun x = new MarbleRun();
        for (int k = 1; k <= 110; k++) {
            due.is("byte", x.feed(k), k);
            due.is("on the tape", x.count(7), k);
        }
        due.is("one more", x.feed('b'), Due.FULL);
        due.is("the least byte", x.feed(0), Due.FULL);
        due.is("BAD ahead of FULL", x.feed(-1), Due.BAD);
        due.is("as many as before", x.count(7), 110);
        x.run();
        due.is("room again", x.feed('b'), 1);
    }

    /** 3 bytes, six marbles of 7, seven pieces of 8 and one of 9. */
    private static String longest(String lastPiece) {
        return "b1;" + "m01,00;".repeat(6) + "g00,8,9;".repeat(7) + lastPiece;
    }

    private static void readsAllOfTheTape() {
        due.by("The tape .. is read: how many PIECES there are.");
        MarbleRun x = new MarbleRun();
        due.is("110 bytes", longest("w01,08,9;").length(), 110);
        due.is("are read", Due.read(x, longest("w01,08,9;")), 8);
        due.is("the last of them, too", x.kind(7), 5);
        fails(longest("w01,08,9,"), 1, 109);
        fails(longest("w01,08,99"), 2, 108);
        fails(longest("w01,08,09"), 1, 110);
        fails(longest("w01,008,9"), 1, 105);
    }

    private static void bytes() {
        due.by("A byte (0 to 255) comes behind the tape: how many it has. BAD; FULL.");
        MarbleRun x = new MarbleRun();
        due.is("0", x.feed(0), 1);
        due.is("255", x.feed(255), 2);
        for (int letter : new int[] {-1, 256, Integer.MIN_VALUE, Integer.MAX_VALUE, 256 + 'b'}) {
            due.is("feed " + letter, x.feed(letter), Due.BAD);
        }
        due.is("two came", x.count(7), 2);
    }

    private static void letters() {
        due.by("letters a to z (each by itself) .. SORT: g a gate, l a latch, h a holder, s a sill, w a scale");
        for (int c = 'a' - 1; c <= 'z' + 1; c++) {
            int kind = SORTS.indexOf(c) + 1;
            MarbleRun x = new MarbleRun();
            int read = Due.read(x, "b5;m3,0;" + (char) c + "0,8,9;");
            due.is("piece " + (char) c, read, c == 'm' ? -1000109 : kind > 0 ? 1 : -1000108);
            due.is("kind of " + (char) c, x.kind(0), kind > 0 ? kind : Due.BAD);
            due.is("law " + (char) c, Due.read(x, (char) c + "5;m3,0;g0,8,9;"), c == 'b' ? 1 : -1000100);
            due.is("marble " + (char) c, Due.read(x, "b5;" + (char) c + "3,0;g0,8,9;"), c == 'm' ? 1 : -1000103);
        }
        fails("B5;m3,0;g0,8,9;", 1, 0);
        fails("b5;M3,0;g0,8,9;", 1, 3);
        fails("b5;m3,0;G0,8,9;", 1, 8);
        fails("b5;m3,0;gl0,8,9;", 1, 9);
        fails("b5;m3,0;gg0,8,9;", 1, 9);
    }

    private static void figures() {
        due.by("NUMBERS (figures, 2 at most), SIGNS , and ; nothing else");
        reads("b05;m03,00;g00,08,09;", 1);
        reads("b5;m3,20;g0,8,9;", 1);
        for (int c = 0; c <= 255; c++) {
            boolean figure = c >= '1' && c <= '9';
            MarbleRun x = new MarbleRun();
            int answer = figure ? 1 : -1000101;
            due.is("BAR of byte " + c, Due.read(x, "b" + (char) c + ";m3,0;g0,8,9;"), answer);
            due.is("its fault", x.fault(), figure ? 0 : c == '0' ? 2 : 1);
        }
        for (int c : new int[] {0, ' ', '\n', '.', ':', '-', '+', '<', 44 + 128, 255}) {
            fails("b5" + (char) c + "m3,0;g0,8,9;", 1, 2);
            fails("b5;m3" + (char) c + "0;g0,8,9;", 1, 5);
            fails("b5;m3,0;g0,8,9;" + (char) c, 1, 15);
        }
        fails("b5,m3,0;g0,8,9;", 1, 2);
        fails("b5;m3;0;g0,8,9;", 1, 5);
    }

    private static void everyByteAtEveryPlace() {
        due.by("FAULTS, the first TOKEN that has one (its first byte)");
        String text = "b5;m3,0;m9,20;g0,1,9;l1,8,02;";
        for (int at = 0; at <= text.length(); at++) {
            for (int c = 0; c <= 255; c++) {
                sameAsModel(text.substring(0, at) + (char) c + text.substring(at));
                if (at < text.length()) {
                    sameAsModel(text.substring(0, at) + (char) c + text.substring(at + 1));
                }
            }
        }
    }

    private static void sameAsModel(String text) {
        MarbleRun x = new MarbleRun();
        Model model = new Model();
        for (int i = 0; i < text.length(); i++) {
            model.call("feed", text.charAt(i));
        }
        due.is("'" + text + "'", Due.read(x, text), model.call("run"));
        due.is("fault of '" + text + "'", x.fault(), model.call("fault"));
    }

    /** Numbers in a place of the text: those that are as told are read, the others are a FAULT 2 there. */
    private static void numbers(String ahead, String behind, int least, int most) {
        for (int v = 0; v <= 99; v++) {
            if (v >= least && v <= most) {
                due.holds(ahead + v, Due.read(new MarbleRun(), ahead + v + behind) > 0);
            } else {
                fails(ahead + v + behind, 2, ahead.length());
            }
        }
    }

    private static void bars() {
        due.by("law: b BAR ; (1 to 9)");
        numbers("b", ";m3,0;g0,8,9;", 1, 9);
        for (int bar = 1; bar <= 9; bar++) {
            due.is("BAR", Due.told("b" + bar + ";m3,0;g0,8,9;").stand(0), bar);
        }
        fails("b00;", 2, 1);
        due.is("09", Due.told("b09;m3,0;g0,8,9;").stand(0), 9);
    }

    private static void weights() {
        due.by("marble: m WEIGHT , START ; (1 to 9");
        numbers("b5;m", ",0;g0,8,9;", 1, 9);
        numbers("b5;m3,0;m", ",0;g0,8,9;", 1, 9);
        for (int weight = 1; weight <= 9; weight++) {
            due.is("WEIGHT", Due.told("b5;m" + weight + ",0;g0,8,9;").marble(0, 0), weight);
        }
    }

    private static void startsOfMarbles() {
        due.by("START ; (1 to 9; 0 to 20");
        numbers("b5;m3,", ";g0,8,9;", 0, 20);
        for (int start = 0; start <= 20; start++) {
            due.is("START", Due.told("b5;m3," + start + ";g0,8,9;").marble(0, 1), start);
        }
    }

    private static void points() {
        due.by("piece: SORT POINT , LEFT , RIGHT ; (SORT: ..; 0 left, 1 right");
        for (char sort : SORTS.toCharArray()) {
            numbers("b5;m3,0;" + sort, ",8,9;", 0, 1);
            due.is("left", Due.told("b5;m3,0;" + sort + "0,8,9;").piece(0, 0), 0);
            due.is("right", Due.told("b5;m3,0;" + sort + "1,8,9;").piece(0, 0), 1);
        }
    }

    private static void sides() {
        due.by("LEFT, RIGHT of a PIECE: from its own number and 1 on to 9");
        String ahead = "b5;m3,0;";
        for (int p = 0; p <= 7; p++) {
            numbers(ahead + "g0,", ",9;", p + 1, 9);
            numbers(ahead + "g0,9,", ";", p + 1, 9);
            for (int to = p + 1; to <= 9; to++) {
                MarbleRun x = Due.told(ahead + "g0," + to + "," + (p + 10 - to) + ";");
                due.is("LEFT", x.piece(p, 1), to);
                due.is("RIGHT", x.piece(p, 2), p + 10 - to);
            }
            ahead += "g0,8,9;";
        }
    }

    private static void piecesThatThereAreNot() {
        due.by("another PIECE, perhaps one that there is not (then it is as 8), 8 THE LEFT TRAY, 9 THE RIGHT TRAY");
        for (int pieces = 1; pieces <= 8; pieces++) {
            for (int to = 1; to <= 9; to++) {
                MarbleRun x = Due.told("b5;m3,0;g0," + to + ",9;" + "s0,8,9;".repeat(pieces - 1));
                due.is("LEFT is told as " + to, x.piece(0, 1), to);
                x.ticks(1);
                due.is("to " + to + " of " + pieces, x.marble(0, 2), to >= pieces && to < 8 ? 8 : to);
            }
        }
        MarbleRun x = Due.told("b5;m3,0;g1,9,5;s0,8,9;");
        x.ticks(1);
        due.is("RIGHT, too", x.marble(0, 2), 8);
        x = Due.told("b5;m3,0;m3,0;h0,2,3;s0,8,9;");
        x.ticks(1);
        due.is("both of a holder", x.stand(4), 3);
    }

    private static void howManyMarbles() {
        due.by("MARBLES 0 .. 5, 6 at most .. 3 a marble .. more than there is room for (its letter)");
        for (int many = 1; many <= 6; many++) {
            MarbleRun x = Due.told("b5;" + "m3,0;".repeat(many) + "g0,8,9;");
            due.is("marbles", x.count(2), many);
            due.is("the last", x.marble(many - 1, 0), 3);
            due.is("none behind it", x.marble(many, 0), Due.BAD);
        }
        fails("b5;" + "m3,0;".repeat(7) + "g0,8,9;", 3, 33);
        fails("b5;" + "m3,0;".repeat(6) + "m", 3, 33);
        fails("b5;" + "m3,0;".repeat(6) + "m0,99;", 3, 33);
        fails("b5;" + "m3,20;".repeat(6) + "m3,0;g0,8,9;", 3, 39);
    }

    private static void howManyPieces() {
        due.by("PIECES 0, the top, .. 7, 8 at most .. a piece more than there is room for (its letter)");
        for (int many = 1; many <= 8; many++) {
            MarbleRun x = new MarbleRun();
            due.is("run", Due.read(x, "b5;m3,0;" + "g0,8,9;".repeat(many)), many);
            due.is("pieces", x.count(1), many);
            due.is("the last", x.kind(many - 1), 1);
            due.is("none behind it", x.kind(many), Due.BAD);
        }
        for (char sort : SORTS.toCharArray()) {
            fails("b5;m3,0;" + "g0,8,9;".repeat(8) + sort + "0,9,9;", 3, 64);
            fails("b5;m3,0;" + "g0,8,9;".repeat(8) + sort, 3, 64);
            fails("b5;m3,0;" + "g0,8,9;".repeat(8) + sort + "7", 3, 64);
        }
        fails("b5;" + "m3,0;".repeat(6) + "g0,8,9;".repeat(9), 3, 89);
    }

    private static void oneOfEachAtLeast() {
        due.by("run: law marble { marble } piece { piece }");
        reads(LEAST_TEXT, 1);
        fails("", 1, 0);
        fails("m3,0;g0,8,9;", 1, 0);
        fails("b5;", 1, 3);
        fails("b5;g0,8,9;", 1, 3);
        fails("b5;m3,0;", 1, 8);
        fails("b5;b5;m3,0;g0,8,9;", 1, 3);
        fails("b5;m3,0;b5;g0,8,9;", 1, 8);
        fails("b5;m3,0;g0,8,9;m3,0;", 1, 15);
        fails("b5;m3,0;g0,8,9;b5;", 1, 15);
    }

    private static void theEnd() {
        due.by("1 it cannot stand there .. the end: how many bytes there are");
        String text = "b5;m3,0;m9,7;g0,8,9;";
        for (int many = 0; many < text.length(); many++) {
            fails(text.substring(0, many), 1, many);
        }
        reads(text, 1);
        fails(text + "w", 1, 21);
        fails(text + "w0,8,9", 1, 26);
    }

    private static void threeFigures() {
        due.by("or is none (a run of three figures, at its first");
        String[] ahead = {"", "b", "b5", "b5;", "b5;m", "b5;m3,", "b5;m3,0;", "b5;m3,0;g", "b5;m3,0;g0,", "b5;m3,0;g0,8,",
            "b5;m3,0;g0,8,9;"};
        int[] places = {0, 1, 1, 3, 4, 6, 8, 9, 11, 13, 15};
        for (int k = 0; k < ahead.length; k++) {
            String figures = ahead[k].equals("b5") ? "00" : "001";
            fails(ahead[k] + figures, 1, places[k]);
            fails(ahead[k] + figures + ";", 1, places[k]);
            fails(ahead[k] + figures + "0000000", 1, places[k]);
        }
        fails("b5;m3,0;g0,8,123", 1, 13);
        fails("b5;m3,000;g0,8,9;", 1, 6);
        reads("b5;m3,00;g0,8,9;", 1);
    }

    private static void firstToken() {
        due.by("FAULTS, the first TOKEN that has one");
        fails("b0;m0,21;g2,0,10;", 2, 1);
        fails("b5;m0;21;x", 2, 4);
        fails("b5;m3;21;x", 1, 5);
        fails("b5;m3,21,x", 2, 6);
        fails("b5;m3,0;g2,0", 2, 9);
        fails("b5;m3,0;g0;0", 1, 10);
        fails("b5;m3,0;g0,0,x", 2, 11);
        fails("b5;m3,0;g0,8,0x", 2, 13);
        fails("b5;" + "m3,0;".repeat(6) + "m999x", 3, 33);
        fails("b5;" + "m3,0;".repeat(5) + "m3,21;m", 2, 31);
        fails("b5;m3,0;" + "g0,8,9;".repeat(7) + "g0,8,7;g", 2, 62);
    }

    private static void leastOfOneToken() {
        due.by("of one TOKEN the least");
        fails("99;", 1, 0);
        fails("b5;99", 1, 3);
        fails("b100;", 1, 1);
        fails("b5;m3,0;g0,8,9;99", 1, 15);
        fails("b5;" + "m3,0;".repeat(6) + "g0,8,9;m3,0;", 1, 40);
        fails("b5;" + "m3,0;".repeat(6) + "x", 1, 33);
        fails("b5;m3,0;" + "g0,8,9;".repeat(8) + "m", 1, 64);
        fails("b5;m3,0;" + "g0,8,9;".repeat(8) + "b", 1, 64);
        fails("b5;m3,0;" + "g0,8,9;".repeat(8) + "100", 1, 64);
    }

    private static void tapeIsEmptyThen() {
        due.by("The tape, empty then, is read .. -1000100 less the place of a FAULT: all stays.");
        MarbleRun x = new MarbleRun();
        due.is("an empty tape", x.run(), -1000100);
        due.is("good", Due.read(x, LEAST_TEXT), 1);
        due.is("bytes then", x.count(7), 0);
        due.is("nothing is left to read", x.run(), -1000100);
        due.is("bad", Due.read(x, LEAST_TEXT + "x"), -1000115);
        due.is("bytes behind a bad one", x.count(7), 0);
        due.is("the next one is the first", x.feed('b'), 1);
        due.is("the RUN stays", x.count(1), 1);
    }

    private static void inPlaceOfTheOneBefore() {
        due.by("A RUN that is read stands in place of the one before (none at first): TICK 0, all MARBLES WAIT, no PIECE "
            + "holds one, WENT of all is 0; no ACT can be undone.");
        MarbleRun x = Due.told("b9;m9,0;m8,0;m7,0;m6,0;m5,1;m4,2;h0,1,2;h1,3,4;g1,8,9;w1,8,9;w1,8,9;l1,8,9;");
        x.ticks(2);
        x.tip(0);
        due.holds("held before", x.stand(3) != 0);
        due.is("read", Due.read(x, "b2;m3,4;h0,1,9;h0,8,9;"), 2);
        due.is("TICK", x.count(3), 0);
        due.is("WAIT", x.stand(1), 1);
        due.is("marbles", x.count(2), 1);
        due.is("no second marble", x.marble(1, 2), Due.BAD);
        due.is("no third piece", x.piece(2, 0), Due.BAD);
        due.is("WENT", x.count(5), 0);
        due.is("no act", x.undo(), Due.STATE);
        due.is("acts", x.count(6), 0);
        due.is("BAR", x.stand(0), 2);
        due.is("WEIGHT", x.marble(0, 0), 3);
        due.is("START", x.marble(0, 1), 4);
        for (int p = 0; p < 2; p++) {
            due.is("holds", x.piece(p, 3), Due.NONE);
            due.is("WENT", x.piece(p, 4), 0);
            due.is("BURDEN", x.piece(p, 5), 0);
            due.is("POINT", x.piece(p, 0), 0);
        }
        due.is("the same text anew", Due.read(x, "b2;m3,4;h0,1,9;h0,8,9;"), 2);
    }

    private static void latestFault() {
        due.by("The number of the latest FAULT; 0 before one.");
        MarbleRun x = new MarbleRun();
        due.is("before one", x.fault(), 0);
        Due.read(x, LEAST_TEXT);
        due.is("a good one is none", x.fault(), 0);
        Due.read(x, "b5;" + "m3,0;".repeat(7));
        due.is("3", x.fault(), 3);
        Due.read(x, "b0;");
        due.is("2", x.fault(), 2);
        Due.read(x, LEAST_TEXT);
        due.is("a good one leaves it", x.fault(), 2);
        x.run();
        due.is("1", x.fault(), 1);
    }
}
