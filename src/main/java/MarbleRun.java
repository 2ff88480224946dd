import java.util.Arrays;

/**
 * A marble run that is told in a text: pieces of track one below the other, marbles that start at
 * the top, two trays at the bottom; what is done to it, and what can be foretold of it.
 *
 * <p>Every call answers with a number and none throws. All that a call needs is made once, in the
 * constructors, so that long runs of calls make no new objects.
 */
public final class MarbleRun {
    public static final int NONE = -1000000, BAD = -1000001, STATE = -1000002, FULL = -1000003;

    private static final int FOUND = -1000010;
    private static final int FOUND_NULL = 1, FOUND_PLACE = 2, FOUND_KIND = 3, FOUND_SIZE = 4, FOUND_STORE = 5;
    private static final int FAULT_PLACES = -1000100;

    private static final int GATE = 1, LATCH = 2, HOLDER = 3, SILL = 4, SCALE = 5;
    private static final int LEFT_TRAY = 8, RIGHT_TRAY = 9, WAITING = 10, HELD = 20;
    private static final int MOST_MARBLES = 6, MOST_PIECES = 8, MOST_TICK = 999, MOST_IMAGES = 2;

    private final Rows rows = new Rows();
    private final Tape tape = new Tape();
    private final Track now = new Track();
    private final Track told = new Track();
    private final Acts acts = new Acts();
    private final Seer seer = new Seer();
    private final Asker asker = new Asker();
    private final Track[] images = {new Track(), new Track()};
    private int latestFault = 0;
    private int latestFinding = 0;

    public MarbleRun() {
    }

    // ---- rows

    public int row(int row, int lane, int n) {
        if (noRow(row) || lane < 0 || lane > Rows.INTS || n > Rows.MOST_ITEMS) {
            return BAD;
        }
        if (n < 0) {
            return found(FOUND_SIZE);
        }
        rows.make(row, lane, n);
        return foundNone(n);
    }

    public int set(int row, int i, int v) {
        if (noRow(row)) {
            return BAD;
        }
        int finding = findingAt(row, i, 1);
        return finding == 0 ? foundNone(rows.put(row, i, v)) : found(finding);
    }

    public int copy(int a, int i, int b, int j, int n) {
        if (noRow(a) || noRow(b)) {
            return BAD;
        }
        if (rows.isMissing(a) || rows.isMissing(b)) {
            return found(FOUND_NULL);
        }
        if (rows.laneOf(a) != rows.laneOf(b)) {
            return found(FOUND_STORE);
        }
        if (!rows.has(a, i, n) || !rows.has(b, j, n)) {
            return found(FOUND_PLACE);
        }
        rows.move(a, i, b, j, n);
        return foundNone(n);
    }

    public int drop(int row) {
        if (noRow(row)) {
            return BAD;
        }
        if (rows.isMissing(row)) {
            return found(FOUND_NULL);
        }
        return foundNone(rows.remove(row));
    }

    // ---- what is told

    public int feed(int letter) {
        if (letter < 0 || letter > 255) {
            return BAD;
        }
        return tape.add(letter) ? tape.length() : FULL;
    }

    public int run() {
        boolean good = tape.readInto(told);
        tape.clear();
        if (!good) {
            latestFault = tape.faultNumber();
            return FAULT_PLACES - tape.faultPlace();
        }
        now.becomeLike(told);
        acts.forget();
        return now.pieces;
    }

    public int fault() {
        return latestFault;
    }

    public int undo() {
        return acts.takeBack(now) ? acts.kept() : STATE;
    }

    // ---- what is done

    public int ticks(int n) {
        if (noRun()) {
            return STATE;
        }
        if (n < 1 || n > Acts.MOST) {
            return BAD;
        }
        if (now.tick + n > MOST_TICK) {
            return FULL;
        }
        for (int t = 0; t < n; t++) {
            acts.keep(now);
            now.pass();
        }
        return now.bitsAt(RIGHT_TRAY);
    }

    public int tip(int piece) {
        if (noPiece(piece)) {
            return BAD;
        }
        acts.keep(now);
        now.swing(piece);
        return now.point[piece];
    }

    public int lead(int piece, int side, int to) {
        if (noPiece(piece) || noSide(side) || to <= piece || to > RIGHT_TRAY) {
            return BAD;
        }
        acts.keep(now);
        int[] ways = side == 0 ? now.left : now.right;
        int before = ways[piece];
        ways[piece] = to;
        return before;
    }

    public int again(int marble, int weight) {
        if (noMarble(marble) || weight < 1 || weight > 9) {
            return BAD;
        }
        if (!now.isInTray(marble)) {
            return STATE;
        }
        acts.keep(now);
        now.throwAnew(marble, weight);
        return now.bitsAt(WAITING);
    }

    public int marble(int marble, int what) {
        if (noMarble(marble)) {
            return BAD;
        }
        switch (what) {
            case 0: return now.weight[marble];
            case 1: return now.start[marble];
            case 2: return now.place[marble];
            default: return BAD;
        }
    }

    public int piece(int piece, int what) {
        if (noPiece(piece)) {
            return BAD;
        }
        switch (what) {
            case 0: return now.point[piece];
            case 1: return now.left[piece];
            case 2: return now.right[piece];
            case 3: return now.holds[piece];
            case 4: return now.went[piece];
            case 5: return now.burden[piece];
            case 6: return now.bitsAt(piece);
            default: return BAD;
        }
    }

    public int stand(int what) {
        if (noRun()) {
            return STATE;
        }
        switch (what) {
            case 0: return now.bar;
            case 1: return now.bitsAt(WAITING);
            case 2: return now.bitsRunning();
            case 3: return now.bitsHeld();
            case 4: return now.bitsAt(LEFT_TRAY);
            case 5: return now.bitsAt(RIGHT_TRAY);
            default: return BAD;
        }
    }

    // ---- foretold

    public int ahead(int marble, int n) {
        if (noMarble(marble) || outside(n, 0, 60)) {
            return BAD;
        }
        return seer.behind(now, n).place[marble];
    }

    public int stands(int piece, int n, int what) {
        if (noPiece(piece) || outside(n, 0, 60) || outside(what, 0, 3)) {
            return BAD;
        }
        Track then = seer.behind(now, n);
        switch (what) {
            case 0: return then.point[piece];
            case 1: return then.holds[piece];
            case 2: return then.went[piece];
            default: return then.burden[piece];
        }
    }

    public int trays(int n, int side) {
        if (noRun()) {
            return STATE;
        }
        if (outside(n, 0, 60) || noSide(side)) {
            return BAD;
        }
        return seer.behind(now, n).bitsAt(side == 0 ? LEFT_TRAY : RIGHT_TRAY);
    }

    public int when(int marble) {
        return noMarble(marble) ? BAD : seer.ticksToTray(now, marble, 60);
    }

    public int rest() {
        return noRun() ? STATE : seer.ticksToRest(now, 60);
    }

    public int tips(int n, int what) {
        if (noRun()) {
            return STATE;
        }
        if (outside(n, 1, 40) || outside(what, 0, 1)) {
            return BAD;
        }
        seer.chooseTips(now, n);
        return what == 0 ? seer.chosen() : seer.most();
    }

    public int order(int n, int k) {
        if (noRun()) {
            return STATE;
        }
        if (outside(n, 1, 40) || k < -1) {
            return BAD;
        }
        if (k >= now.marbles) {
            return NONE;
        }
        seer.chooseOrder(now, n);
        return k < 0 ? seer.most() : seer.chosenAt(k);
    }

    public int leads(int piece, int n, int what) {
        if (noPiece(piece) || outside(n, 1, 40) || outside(what, 0, 1)) {
            return BAD;
        }
        seer.chooseLead(now, piece, n);
        return what == 0 ? seer.chosen() : seer.most();
    }

    public int sets(int v, int what) {
        if (noRun()) {
            return STATE;
        }
        if (outside(v, 0, 54) || outside(what, 0, 2)) {
            return BAD;
        }
        return setsOf(v, what);
    }

    public int share(int piece, int n) {
        if (noPiece(piece) || outside(n, 0, 999)) {
            return BAD;
        }
        return shareOf(piece, n);
    }

    public int byTurns(int n, int m) {
        if (noRun()) {
            return STATE;
        }
        if (outside(n, 0, 4) || outside(m, 1, 20)) {
            return BAD;
        }
        return seer.playTurns(now, n, m);
    }

    public int who(int piece, int which, int row, int i, int n) {
        if (noPiece(piece) || outside(which, 0, 1) || noRow(row) || outside(n, 1, 12)) {
            return BAD;
        }
        int finding = findingAt(row, i, n);
        if (finding != 0) {
            return found(finding);
        }
        seer.watch(rows.itemsOf(row), i, n);
        return foundNone(which == 0 ? seer.kindsThatFit(now, piece) : seer.pointsThatFit(now, piece));
    }

    public int weights(int marble, int which, int row, int i, int n) {
        if (noMarble(marble) || outside(which, 0, 1) || noRow(row) || outside(n, 1, 12)) {
            return BAD;
        }
        int finding = findingAt(row, i, n);
        if (finding != 0) {
            return found(finding);
        }
        seer.watch(rows.itemsOf(row), i, n);
        return foundNone(which == 0 ? seer.weightsThatFit(now, marble) : seer.barsThatFit(now));
    }

    public long jam(int marble, int n, int p, int what) {
        if (noMarble(marble) || outside(n, 0, 30) || outside(p, 0, 10) || outside(what, 0, 1)) {
            return BAD;
        }
        long above = seer.jamCases(now, marble, n, p);
        long below = power(10, now.pieces);
        long shared = commonDivisor(above, below);
        if (shared <= 0) {
            return BAD;
        }
        return what == 0 ? above / shared : below / shared;
    }

    public int drawn(int n, int seed, int what) {
        if (noRun()) {
            return STATE;
        }
        if (outside(n, 0, 60) || outside(seed, 1, 999999) || outside(what, 0, 1)) {
            return BAD;
        }
        return seer.cameByDraws(now, n, seed, what == 0 ? RIGHT_TRAY : LEFT_TRAY);
    }

    public int image(int k) {
        if (outside(k, 0, MOST_IMAGES - 1)) {
            return BAD;
        }
        if (noRun()) {
            return STATE;
        }
        images[k].becomeLike(now);
        return 1;
    }

    public int restore(int k) {
        if (outside(k, 0, MOST_IMAGES - 1)) {
            return BAD;
        }
        if (images[k].pieces == 0) {
            return STATE;
        }
        now.becomeLike(images[k]);
        acts.forget();
        return 1;
    }

    // ---- asked

    public int kind(int one) {
        return noPiece(one) ? BAD : now.sort[one];
    }

    public int as(int one, int kind) {
        if (noPiece(one) || outside(kind, 0, SCALE)) {
            return BAD;
        }
        return Asker.isOfKind(now.sort[one], kind) ? foundNone(one) : found(FOUND_KIND);
    }

    public int ask(int one, int what) {
        if (noPiece(one) || outside(what, 0, 1)) {
            return BAD;
        }
        asker.emptyTrace();
        return what == 0 ? asker.size(now, one) : asker.mark(now, one);
    }

    public int trace(int i) {
        return asker.traceAt(i);
    }

    public int count(int what) {
        switch (what) {
            case 0: return rows.present();
            case 1: return now.pieces;
            case 2: return now.marbles;
            case 3: return now.tick;
            case 4: return Integer.bitCount(now.bitsRunning());
            case 5: return now.wentOfAll();
            case 6: return acts.kept();
            case 7: return tape.length();
            default: return BAD;
        }
    }

    public int status() {
        return latestFinding;
    }

    // ---- what the calls share

    private static boolean outside(int v, int least, int most) {
        return v < least || v > most;
    }

    private static boolean noSide(int side) {
        return outside(side, 0, 1);
    }

    private static boolean noRow(int row) {
        return outside(row, 0, Rows.MOST - 1);
    }

    private boolean noRun() {
        return now.pieces == 0;
    }

    private boolean noPiece(int piece) {
        return outside(piece, 0, now.pieces - 1);
    }

    private boolean noMarble(int marble) {
        return outside(marble, 0, now.marbles - 1);
    }

    private int findingAt(int row, int i, int n) {
        if (rows.isMissing(row)) {
            return FOUND_NULL;
        }
        return rows.has(row, i, n) ? 0 : FOUND_PLACE;
    }

    private int found(int finding) {
        latestFinding = finding;
        return FOUND - finding;
    }

    private int foundNone(int answer) {
        latestFinding = 0;
        return answer;
    }

    private int setsOf(int v, int what) {
        int free = now.bitsOutOfTrays();
        int many = 0;
        int inAll = free;
        int inAny = 0;
        for (int bits = 0; bits <= free; bits++) {
            if ((bits & ~free) == 0 && now.weightOf(bits) == v) {
                many++;
                inAll &= bits;
                inAny |= bits;
            }
        }
        if (what == 0) {
            return many;
        }
        if (many == 0) {
            return 0;
        }
        return what == 1 ? inAll : inAny;
    }

    private int shareOf(int piece, int n) {
        int all = now.wentOfAll();
        if (all <= 0 || now.went[piece] == 0) {
            return 0;
        }
        int over = n;
        int usedBefore = 0;
        for (int p = 0; p < now.pieces; p++) {
            over -= n * now.went[p] / all;
            if (p < piece && now.went[p] > 0) {
                usedBefore++;
            }
        }
        return n * now.went[piece] / all + (usedBefore < over ? 1 : 0);
    }

    private static long power(long base, int times) {
        long product = 1;
        for (int k = 0; k < times; k++) {
            product *= base;
        }
        return product;
    }

    private static long commonDivisor(long a, long b) {
        long high = a;
        long low = b;
        // Numbers up to 10 to the 8th need far fewer rounds than this.
        for (int k = 0; k < 100 && low != 0; k++) {
            long rest = high % low;
            high = low;
            low = rest;
        }
        return high;
    }

    /** The rows; a missing one has the length -1. */
    private static final class Rows {
        static final int MOST = 8, MOST_ITEMS = 40, SHORTS = 1, INTS = 2;
        private static final int MISSING = -1;

        private final int[][] items = new int[MOST][MOST_ITEMS];
        private final int[] lanes = new int[MOST];
        private final int[] lengths = new int[MOST];

        Rows() {
            Arrays.fill(lengths, MISSING);
        }

        boolean isMissing(int row) {
            return lengths[row] == MISSING;
        }

        int laneOf(int row) {
            return lanes[row];
        }

        int[] itemsOf(int row) {
            return items[row];
        }

        /** Whether n items from i on are there; written so that no sum can wrap around. */
        boolean has(int row, int i, int n) {
            return i >= 0 && n >= 0 && i <= lengths[row] - n;
        }

        void make(int row, int lane, int n) {
            lanes[row] = lane;
            lengths[row] = n;
            Arrays.fill(items[row], 0);
        }

        int put(int row, int i, int v) {
            int kept = v;
            if (lanes[row] < SHORTS) {
                kept = (byte) v;
            } else if (lanes[row] < INTS) {
                kept = (short) v;
            }
            items[row][i] = kept;
            return kept;
        }

        void move(int a, int i, int b, int j, int n) {
            System.arraycopy(items[a], i, items[b], j, n);
        }

        int remove(int row) {
            int had = lengths[row];
            lengths[row] = MISSING;
            return had;
        }

        int present() {
            int many = 0;
            for (int row = 0; row < MOST; row++) {
                if (!isMissing(row)) {
                    many++;
                }
            }
            return many;
        }
    }

    /** The tape, and how it is read: token by token, up to the first that has a fault. */
    private static final class Tape {
        private static final int MOST = 110;
        private static final int MISPLACED = 1, NOT_AS_TOLD = 2, NO_ROOM = 3;
        private static final int END = -1;

        private final int[] bytes = new int[MOST];
        private int size = 0;
        private int at = 0;
        private int value = 0;
        private int fault = 0;

        boolean add(int letter) {
            if (size >= MOST) {
                return false;
            }
            bytes[size] = letter;
            size++;
            return true;
        }

        int length() {
            return size;
        }

        void clear() {
            size = 0;
        }

        int faultNumber() {
            return fault;
        }

        int faultPlace() {
            return at;
        }

        boolean readInto(Track track) {
            at = 0;
            fault = 0;
            track.clear();
            return readLaw(track) && readMarbles(track) && readPieces(track);
        }

        private boolean readLaw(Track track) {
            if (!take('b') || !takeNumber(1, 9)) {
                return false;
            }
            track.bar = value;
            return take(';');
        }

        private boolean readMarbles(Track track) {
            for (int m = 0; m <= MOST_MARBLES && (m == 0 || next() == 'm'); m++) {
                if (m == MOST_MARBLES) {
                    return fails(NO_ROOM);
                }
                if (!readMarble(track, m)) {
                    return false;
                }
                track.marbles = m + 1;
            }
            return true;
        }

        private boolean readMarble(Track track, int m) {
            if (!take('m') || !takeNumber(1, 9)) {
                return false;
            }
            track.weight[m] = value;
            if (!take(',') || !takeNumber(0, 20)) {
                return false;
            }
            track.start[m] = value;
            return take(';');
        }

        private boolean readPieces(Track track) {
            for (int p = 0; p <= MOST_PIECES && (p == 0 || next() != END); p++) {
                if (sortOf(next()) == 0) {
                    return fails(MISPLACED);
                }
                if (p == MOST_PIECES) {
                    return fails(NO_ROOM);
                }
                if (!readPiece(track, p)) {
                    return false;
                }
                track.pieces = p + 1;
            }
            return true;
        }

        private boolean readPiece(Track track, int p) {
            track.sort[p] = sortOf(next());
            at++;
            if (!takeNumber(0, 1)) {
                return false;
            }
            track.point[p] = value;
            if (!take(',') || !takeNumber(p + 1, RIGHT_TRAY)) {
                return false;
            }
            track.left[p] = value;
            if (!take(',') || !takeNumber(p + 1, RIGHT_TRAY)) {
                return false;
            }
            track.right[p] = value;
            return take(';');
        }

        private static int sortOf(int letter) {
            switch (letter) {
                case 'g': return GATE;
                case 'l': return LATCH;
                case 'h': return HOLDER;
                case 's': return SILL;
                case 'w': return SCALE;
                default: return 0;
            }
        }

        private int byteAt(int i) {
            return i < size && i < MOST ? bytes[i] : END;
        }

        private int next() {
            return byteAt(at);
        }

        private boolean isFigureAt(int i) {
            int letter = byteAt(i);
            return letter >= '0' && letter <= '9';
        }

        private boolean fails(int number) {
            fault = number;
            return false;
        }

        private boolean take(int letter) {
            if (next() != letter) {
                return fails(MISPLACED);
            }
            at++;
            return true;
        }

        private boolean takeNumber(int least, int most) {
            if (!isFigureAt(at) || (isFigureAt(at + 1) && isFigureAt(at + 2))) {
                return fails(MISPLACED);
            }
            boolean single = !isFigureAt(at + 1);
            int first = byteAt(at) - '0';
            value = single ? first : first * 10 + byteAt(at + 1) - '0';
            if (value < least || value > most) {
                return fails(NOT_AS_TOLD);
            }
            at += single ? 1 : 2;
            return true;
        }
    }

    /** How a run stands at one time, and what a tick makes of it. */
    private static final class Track {
        private static final int MOST_WENT = 999, MOST_BURDEN = 9999;

        int bar = 0;
        int tick = 0;
        int marbles = 0;
        int pieces = 0;
        int jammed = 0;
        final int[] weight = new int[MOST_MARBLES];
        final int[] start = new int[MOST_MARBLES];
        final int[] place = new int[MOST_MARBLES];
        final int[] sort = new int[MOST_PIECES];
        final int[] point = new int[MOST_PIECES];
        final int[] left = new int[MOST_PIECES];
        final int[] right = new int[MOST_PIECES];
        final int[] holds = new int[MOST_PIECES];
        final int[] went = new int[MOST_PIECES];
        final int[] burden = new int[MOST_PIECES];

        void clear() {
            bar = 0;
            tick = 0;
            marbles = 0;
            pieces = 0;
            jammed = 0;
            Arrays.fill(place, WAITING);
            Arrays.fill(holds, NONE);
            Arrays.fill(went, 0);
            Arrays.fill(burden, 0);
        }

        void becomeLike(Track other) {
            bar = other.bar;
            tick = other.tick;
            marbles = other.marbles;
            pieces = other.pieces;
            jammed = other.jammed;
            System.arraycopy(other.weight, 0, weight, 0, MOST_MARBLES);
            System.arraycopy(other.start, 0, start, 0, MOST_MARBLES);
            System.arraycopy(other.place, 0, place, 0, MOST_MARBLES);
            System.arraycopy(other.sort, 0, sort, 0, MOST_PIECES);
            System.arraycopy(other.point, 0, point, 0, MOST_PIECES);
            System.arraycopy(other.left, 0, left, 0, MOST_PIECES);
            System.arraycopy(other.right, 0, right, 0, MOST_PIECES);
            System.arraycopy(other.holds, 0, holds, 0, MOST_PIECES);
            System.arraycopy(other.went, 0, went, 0, MOST_PIECES);
            System.arraycopy(other.burden, 0, burden, 0, MOST_PIECES);
        }

        /** One TICK. */
        void pass() {
            // Told ahead of the moves: one that a holder lets go must not move on in the same tick.
            int movers = letIn();
            for (int m = 0; m < marbles; m++) {
                if ((movers >> m & 1) != 0) {
                    leave(m, place[m]);
                }
            }
            tick++;
        }

        private int letIn() {
            int movers = 0;
            for (int m = 0; m < marbles; m++) {
                if (place[m] == WAITING && start[m] <= tick) {
                    place[m] = 0;
                }
                if (place[m] < pieces) {
                    movers |= 1 << m;
                }
            }
            return movers;
        }

        private void leave(int m, int p) {
            went[p] = Math.min(MOST_WENT, went[p] + 1);
            burden[p] = Math.min(MOST_BURDEN, burden[p] + weight[m]);
            if ((jammed >> p & 1) != 0) {
                send(m, left[p]);
                return;
            }
            switch (sort[p]) {
                case GATE:
                    send(m, point[p] == 0 ? left[p] : right[p]);
                    swing(p);
                    break;
                case LATCH:
                    send(m, point[p] == 0 ? left[p] : right[p]);
                    if (went[p] % 2 == 0) {
                        swing(p);
                    }
                    break;
                case HOLDER:
                    if (holds[p] == NONE) {
                        hold(m, p);
                    } else {
                        send(holds[p], left[p]);
                        send(m, right[p]);
                        holds[p] = NONE;
                    }
                    break;
                case SILL:
                    send(m, weight[m] >= bar ? right[p] : left[p]);
                    break;
                default:
                    send(m, burden[p] % 2 == 0 ? right[p] : left[p]);
                    break;
            }
        }

        private void hold(int m, int p) {
            holds[p] = m;
            place[m] = HELD + p;
        }

        /** A piece that there is not is as the left tray. */
        private void send(int m, int to) {
            if (m >= 0 && m < marbles) {
                place[m] = to >= pieces && to < LEFT_TRAY ? LEFT_TRAY : to;
            }
        }

        void swing(int piece) {
            point[piece] = 1 - point[piece];
        }

        void throwAnew(int marble, int newWeight) {
            place[marble] = WAITING;
            weight[marble] = newWeight;
            start[marble] = tick;
        }

        boolean isInTray(int marble) {
            return place[marble] == LEFT_TRAY || place[marble] == RIGHT_TRAY;
        }

        /** Whether any waits or runs: else no tick changes anything but its number. */
        boolean isAstir() {
            for (int m = 0; m < marbles; m++) {
                if (place[m] < LEFT_TRAY || place[m] == WAITING) {
                    return true;
                }
            }
            return false;
        }

        private int bitsBetween(int least, int most) {
            int bits = 0;
            for (int m = 0; m < marbles; m++) {
                if (place[m] >= least && place[m] <= most) {
                    bits |= 1 << m;
                }
            }
            return bits;
        }

        int bitsAt(int where) {
            return bitsBetween(where, where);
        }

        int bitsRunning() {
            return bitsBetween(0, MOST_PIECES - 1);
        }

        int bitsHeld() {
            return bitsBetween(HELD, HELD + MOST_PIECES - 1);
        }

        int bitsOutOfTrays() {
            return ((1 << marbles) - 1) & ~bitsAt(LEFT_TRAY) & ~bitsAt(RIGHT_TRAY);
        }

        int manyAt(int where) {
            return Integer.bitCount(bitsAt(where));
        }

        int weightOf(int bits) {
            int sum = 0;
            for (int m = 0; m < marbles; m++) {
                if ((bits >> m & 1) != 0) {
                    sum += weight[m];
                }
            }
            return sum;
        }

        int wentOfAll() {
            int sum = 0;
            for (int p = 0; p < pieces; p++) {
                sum += went[p];
            }
            return sum;
        }

        /** The pieces whose point matters at all: to tip another one changes no marble's way. */
        int bitsPointed() {
            int bits = 0;
            for (int p = 0; p < pieces; p++) {
                if (sort[p] == GATE || sort[p] == LATCH) {
                    bits |= 1 << p;
                }
            }
            return bits;
        }

        void swingAll(int bits) {
            for (int p = 0; p < pieces; p++) {
                if ((bits >> p & 1) != 0) {
                    swing(p);
                }
            }
        }
    }

    /** How the run stood ahead of each of the latest acts, in a ring. */
    private static final class Acts {
        static final int MOST = 24;

        private final Track[] before = new Track[MOST];
        private int next = 0;
        private int many = 0;

        Acts() {
            for (int k = 0; k < MOST; k++) {
                before[k] = new Track();
            }
        }

        int kept() {
            return many;
        }

        void forget() {
            many = 0;
        }

        void keep(Track track) {
            before[next].becomeLike(track);
            next = (next + 1) % MOST;
            many = Math.min(MOST, many + 1);
        }

        boolean takeBack(Track track) {
            if (many == 0) {
                return false;
            }
            many--;
            next = (next + MOST - 1) % MOST;
            track.becomeLike(before[next]);
            return true;
        }
    }

    /** Foretells on a track of its own, so that the run itself stays as it is. */
    private static final class Seer {
        private static final int MOST_SETS = 1 << MOST_PIECES, MOST_ORDERS = 720;
        private static final int MOST_WAYS = 1 << 2 * MOST_MARBLES, UNKNOWN = -1;

        private final Track look = new Track();
        private final int[] worths = new int[MOST_SETS];
        private final int[] worthsAhead = new int[MOST_SETS];
        private final int[] tried = new int[MOST_MARBLES];
        private final int[] best = new int[MOST_MARBLES];
        private final int[] comeRight = new int[MOST_WAYS];
        private int[] seen = null;
        private int seenFrom = 0;
        private int seenTicks = 0;
        private int most = 0;
        private int chosen = 0;

        int most() {
            return most;
        }

        int chosen() {
            return chosen;
        }

        int chosenAt(int k) {
            return k >= 0 && k < MOST_MARBLES ? best[k] : NONE;
        }

        Track behind(Track now, int n) {
            look.becomeLike(now);
            goOn(n);
            return look;
        }

        private void goOn(int n) {
            for (int t = 0; t < n && look.isAstir(); t++) {
                look.pass();
            }
        }

        int ticksToTray(Track now, int marble, int limit) {
            look.becomeLike(now);
            for (int t = 0; t <= limit; t++) {
                if (look.isInTray(marble)) {
                    return t;
                }
                look.pass();
            }
            return NONE;
        }

        int ticksToRest(Track now, int limit) {
            look.becomeLike(now);
            for (int t = 0; t <= limit; t++) {
                if (!look.isAstir()) {
                    return t;
                }
                look.pass();
            }
            return NONE;
        }

        // ---- what is best

        /** Sets with a piece whose point is no matter are never the fewest, so they are left out. */
        void chooseTips(Track now, int n) {
            int pointed = now.bitsPointed();
            most = -1;
            chosen = 0;
            for (int bits = 0; bits <= pointed; bits++) {
                if ((bits & ~pointed) == 0) {
                    look.becomeLike(now);
                    look.swingAll(bits);
                    goOn(n);
                    preferTips(bits, look.manyAt(RIGHT_TRAY));
                }
            }
        }

        private void preferTips(int bits, int many) {
            boolean fewer = Integer.bitCount(bits) < Integer.bitCount(chosen);
            if (many > most || (many == most && fewer)) {
                most = many;
                chosen = bits;
            }
        }

        void chooseLead(Track now, int piece, int n) {
            most = -1;
            chosen = RIGHT_TRAY;
            for (int to = piece + 1; to <= RIGHT_TRAY; to++) {
                look.becomeLike(now);
                look.right[piece] = to;
                goOn(n);
                int many = look.manyAt(RIGHT_TRAY);
                if (many > most) {
                    most = many;
                    chosen = to;
                }
            }
        }

        void chooseOrder(Track now, int n) {
            most = -1;
            Arrays.fill(comeRight, UNKNOWN);
            for (int k = 0; k < now.marbles; k++) {
                tried[k] = k;
            }
            boolean more = true;
            for (int k = 0; k < MOST_ORDERS && more; k++) {
                preferOrder(now, rightOnes(now, n));
                more = stepToNextOrder(now.marbles);
            }
        }

        /**
         * Pieces tell weights apart by the bar, and by even or odd, alone: all orders that are alike in
         * this send the marbles the same ways, so that one of them is looked at for all.
         */
        private int rightOnes(Track now, int n) {
            int ways = 0;
            for (int k = 0; k < now.marbles; k++) {
                int weight = now.weight[tried[k]];
                ways = 4 * ways + (weight >= now.bar ? 2 : 0) + weight % 2;
            }
            if (comeRight[ways] == UNKNOWN) {
                look.becomeLike(now);
                for (int k = 0; k < now.marbles; k++) {
                    look.weight[k] = now.weight[tried[k]];
                }
                goOn(n);
                comeRight[ways] = look.bitsAt(RIGHT_TRAY);
            }
            return comeRight[ways];
        }

        private void preferOrder(Track now, int bits) {
            int weight = 0;
            for (int k = 0; k < now.marbles; k++) {
                weight += (bits >> k & 1) * now.weight[tried[k]];
            }
            if (weight > most) {
                most = weight;
                System.arraycopy(tried, 0, best, 0, MOST_MARBLES);
            }
        }

        private boolean stepToNextOrder(int marbles) {
            int last = marbles - 1;
            int rise = last - 1;
            while (rise >= 0 && tried[rise] > tried[rise + 1]) {
                rise--;
            }
            if (rise < 0) {
                return false;
            }
            int other = last;
            while (other > rise && tried[other] < tried[rise]) {
                other--;
            }
            swapTried(rise, other);
            for (int a = rise + 1, b = last; a < b; a++, b--) {
                swapTried(a, b);
            }
            return true;
        }

        private void swapTried(int a, int b) {
            int kept = tried[a];
            tried[a] = tried[b];
            tried[b] = kept;
        }

        // ---- two who tip by turns

        int playTurns(Track now, int n, int m) {
            int sets = 1 << now.pieces;
            weighSets(now, sets, n, m);
            for (int turn = n - 1; turn >= 0; turn--) {
                playTurn(now.pieces, sets, turn);
            }
            return worths[0];
        }

        /** What comes of each set of tipped pieces that n turns can reach. */
        private void weighSets(Track now, int sets, int n, int m) {
            int pointed = now.bitsPointed();
            for (int bits = 0; bits < sets; bits++) {
                if ((bits & ~pointed) != 0) {
                    worths[bits] = worths[bits & pointed];
                } else if (Integer.bitCount(bits) <= n) {
                    look.becomeLike(now);
                    look.swingAll(bits);
                    goOn(m);
                    worths[bits] = look.manyAt(RIGHT_TRAY) - look.manyAt(LEFT_TRAY);
                }
            }
        }

        /** Ahead of a turn no more pieces are tipped than turns were taken: other sets are no matter. */
        private void playTurn(int pieces, int sets, int turn) {
            boolean wantsGreat = turn % 2 == 0;
            for (int bits = 0; bits < sets; bits++) {
                int worth = worths[bits];
                for (int p = 0; p < pieces && Integer.bitCount(bits) <= turn; p++) {
                    int other = worths[bits ^ (1 << p)];
                    worth = wantsGreat ? Math.max(worth, other) : Math.min(worth, other);
                }
                worthsAhead[bits] = worth;
            }
            System.arraycopy(worthsAhead, 0, worths, 0, sets);
        }

        // ---- what fits a row

        /** The items that the fitting calls compare with; whoever calls has looked at the places. */
        void watch(int[] items, int from, int ticks) {
            seen = items;
            seenFrom = from;
            seenTicks = ticks;
        }

        private boolean fits() {
            if (seen == null) {
                return false;
            }
            for (int t = 0; t < seenTicks; t++) {
                look.pass();
                if (seen[seenFrom + t] != look.manyAt(LEFT_TRAY) + 10 * look.manyAt(RIGHT_TRAY)) {
                    return false;
                }
            }
            return true;
        }

        private int bitIfFit(int v) {
            return fits() ? 1 << v : 0;
        }

        int kindsThatFit(Track now, int piece) {
            int bits = 0;
            for (int kind = GATE; kind <= SCALE; kind++) {
                look.becomeLike(now);
                look.sort[piece] = kind;
                bits |= bitIfFit(kind);
            }
            return bits;
        }

        int pointsThatFit(Track now, int piece) {
            int bits = 0;
            for (int point = 0; point <= 1; point++) {
                look.becomeLike(now);
                look.point[piece] = point;
                bits |= bitIfFit(point);
            }
            return bits;
        }

        int weightsThatFit(Track now, int marble) {
            int bits = 0;
            for (int weight = 1; weight <= 9; weight++) {
                look.becomeLike(now);
                look.weight[marble] = weight;
                bits |= bitIfFit(weight);
            }
            return bits;
        }

        int barsThatFit(Track now) {
            int bits = 0;
            for (int bar = 1; bar <= 9; bar++) {
                look.becomeLike(now);
                look.bar = bar;
                bits |= bitIfFit(bar);
            }
            return bits;
        }

        // ---- chance

        /** In how many of 10 to the number of pieces cases the marble comes into the right tray. */
        long jamCases(Track now, int marble, int n, int p) {
            long sum = 0;
            for (int bits = 0; bits < 1 << now.pieces; bits++) {
                int jams = Integer.bitCount(bits);
                long cases = power(p, jams) * power(10 - p, now.pieces - jams);
                if (cases > 0) {
                    look.becomeLike(now);
                    look.jammed = bits;
                    goOn(n);
                    sum += look.place[marble] == RIGHT_TRAY ? cases : 0;
                }
            }
            return sum;
        }

        int cameByDraws(Track now, int n, int seed, int tray) {
            look.becomeLike(now);
            long x = seed;
            int came = 0;
            for (int t = 0; t < n; t++) {
                x = x * 16807 % 2147483647;
                disturb((int) x);
                int before = look.bitsAt(tray);
                look.pass();
                came += Integer.bitCount(look.bitsAt(tray) & ~before);
            }
            return came;
        }

        private void disturb(int x) {
            if (look.marbles == 0 || look.pieces == 0) {
                return;
            }
            int marble = x % look.marbles;
            if (look.isInTray(marble)) {
                look.throwAnew(marble, x % 9 + 1);
            } else if (x % 3 == 0) {
                look.swing(x % look.pieces);
            }
        }
    }

    /** The asks of pieces; each body is a method of its own, named by its number. */
    private static final class Asker {
        private static final int MOST_TRACED = 16;
        /** The kind that each kind is, too. */
        private static final int[] PARENTS = {NONE, 0, GATE, GATE, 0, SILL};

        private final int[] traced = new int[MOST_TRACED];
        private int many = 0;

        static boolean isOfKind(int sort, int kind) {
            int one = sort;
            for (int k = 0; k < PARENTS.length && one >= 0 && one < PARENTS.length; k++) {
                if (one == kind) {
                    return true;
                }
                one = PARENTS[one];
            }
            return false;
        }

        int traceAt(int i) {
            return i >= 0 && i < many ? traced[i] : NONE;
        }

        void emptyTrace() {
            many = 0;
        }

        private void begin(int body) {
            if (many < MOST_TRACED) {
                traced[many] = body;
                many++;
            }
        }

        int size(Track track, int piece) {
            switch (track.sort[piece]) {
                case GATE: return body11(track, piece);
                case LATCH: return body12(track, piece);
                case HOLDER: return body11(track, piece);
                case SILL: return body13(track, piece);
                case SCALE: return body14(track, piece);
                default: return body10(track, piece);
            }
        }

        int mark(Track track, int piece) {
            switch (track.sort[piece]) {
                case GATE: return body21(track, piece);
                case LATCH: return body24(track, piece);
                case HOLDER: return body22(track, piece);
                case SILL: return body23(track, piece);
                case SCALE: return body23(track, piece);
                default: return body20(track, piece);
            }
        }

        private int body10(Track track, int piece) {
            begin(10);
            return track.went[piece];
        }

        private int body11(Track track, int piece) {
            begin(11);
            return body10(track, piece) + mark(track, piece);
        }

        private int body12(Track track, int piece) {
            begin(12);
            return -body11(track, piece);
        }

        private int body13(Track track, int piece) {
            begin(13);
            return body10(track, piece) - 100;
        }

        private int body14(Track track, int piece) {
            begin(14);
            return 2 * body13(track, piece);
        }

        private int body20(Track track, int piece) {
            begin(20);
            return piece;
        }

        private int body21(Track track, int piece) {
            begin(21);
            return body20(track, piece) + track.point[piece];
        }

        private int body22(Track track, int piece) {
            begin(22);
            return body21(track, piece) - 1000;
        }

        private int body23(Track track, int piece) {
            begin(23);
            return body20(track, piece) - size(track, piece);
        }

        private int body24(Track track, int piece) {
            begin(24);
            return 2 * body21(track, piece);
        }
    }
}
