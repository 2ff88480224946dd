/** Objects that tests share, with something of everything. */
final class Scenes {
    private Scenes() {
    }

    /**
     * Five marbles (one waits, one runs, one is held, one is in each tray), four pieces, six acts, one image of
     * two, two rows of eight, two bytes on the tape, a fault, a trace; the status is 2.
     */
    static MarbleRun busy() {
        return busyWithTape("b0");
    }

    static MarbleRun busyWithTape(String text) {
        MarbleRun x = new MarbleRun();
        Due.read(x, "b0");
        Due.read(x, "b5;m3,0;m7,0;m2,1;m9,20;m5,2;g0,1,2;h0,3,9;s1,8,9;l1,8,9;");
        x.image(0);
        x.row(0, 0, 3);
        x.set(0, 1, 10);
        x.row(1, 2, 5);
        x.set(1, 4, 1);
        x.ticks(1);
        x.tip(0);
        x.ticks(1);
        x.lead(3, 0, 9);
        x.tip(3);
        x.ticks(1);
        x.ask(3, 0);
        x.set(0, 3, 1);
        for (int i = 0; i < text.length(); i++) {
            x.feed(text.charAt(i));
        }
        return x;
    }
}
