import java.util.ArrayDeque;
import java.util.ArrayList;
import java.util.Deque;
import java.util.HashMap;
import java.util.List;
import java.util.Map;
import java.util.function.Consumer;
import java.util.regex.Matcher;
import java.util.regex.Pattern;

/**
 * The document written once more, in the plainest Java and by other means than the class itself (objects for
 * pieces and marbles, whole copies, recursion over every choice), to be compared with it call by call.
 */
final class Model {
    static final long NONE = -1000000, BAD = -1000001, STATE = -1000002, FULL = -1000003;

    // ---- pieces, by classes as the document tells their kinds

    interface Piece {
        Base base();

        default long size(List<Integer> trace) {
            trace.add(10);
            return base().went;
        }

        default long mark(List<Integer> trace) {
            trace.add(20);
            return base().number;
        }
    }

    abstract static class Base implements Piece {
        int number, kind, point, left, right, went, burden;
        Marble held;
        boolean jammed;

        public Base base() {
            return this;
        }
    }

    static class Gate extends Base {
        public long size(List<Integer> trace) {
            trace.add(11);
            long ten = super.size(trace);
            return ten + mark(trace);
        }

        public long mark(List<Integer> trace) {
            trace.add(21);
            return super.mark(trace) + point;
        }
    }

    static final class Latch extends Gate {
        public long size(List<Integer> trace) {
            trace.add(12);
            return 0 - super.size(trace);
        }

        public long mark(List<Integer> trace) {
            trace.add(24);
            return super.mark(trace) * 2;
        }
    }

    static final class Holder extends Gate {
        public long mark(List<Integer> trace) {
            trace.add(22);
            return super.mark(trace) - 1000;
        }
    }

    static class Sill extends Base {
        public long size(List<Integer> trace) {
            trace.add(13);
            return super.size(trace) - 100;
        }

        public long mark(List<Integer> trace) {
            trace.add(23);
            long twenty = super.mark(trace);
            return twenty - size(trace);
        }
    }

    static final class Scale extends Sill {
        public long size(List<Integer> trace) {
            trace.add(14);
            return super.size(trace) * 2;
        }
    }

    static Base pieceOf(int kind) {
        Base p = kind == 1 ? new Gate() : kind == 2 ? new Latch() : kind == 3 ? new Holder()
            : kind == 4 ? new Sill() : new Scale();
        p.kind = kind;
        return p;
    }

    static boolean isOf(Object piece, int kind) {
        Class<?>[] kinds = {Piece.class, Gate.class, Latch.class, Holder.class, Sill.class, Scale.class};
        return kinds[kind].isInstance(piece);
    }

    enum Where { WAITS, RUNS, HELD, LEFT, RIGHT }

    static final class Marble {
        int number, weight, start, on;
        Where where = Where.WAITS;

        int told() {
            switch (where) {
                case WAITS: return 10;
                case RUNS: return on;
                case HELD: return 20 + on;
                case LEFT: return 8;
                default: return 9;
            }
        }

        boolean inTray() {
            return where == Where.LEFT || where == Where.RIGHT;
        }
    }

    // ---- a run

    static final class Run {
        int bar, tick;
        final List<Marble> marbles = new ArrayList<>();
        final List<Base> pieces = new ArrayList<>();

        Run copy() {
            return copy(-1, 0);
        }

        /** A copy in which one piece is of another kind. */
        Run copy(int other, int kind) {
            Run r = new Run();
            r.bar = bar;
            r.tick = tick;
            for (Marble m : marbles) {
                Marble c = new Marble();
                c.number = m.number;
                c.weight = m.weight;
                c.start = m.start;
                c.on = m.on;
                c.where = m.where;
                r.marbles.add(c);
            }
            for (Base p : pieces) {
                Base c = pieceOf(p.number == other ? kind : p.kind);
                c.number = p.number;
                c.point = p.point;
                c.left = p.left;
                c.right = p.right;
                c.went = p.went;
                c.burden = p.burden;
                c.jammed = p.jammed;
                c.held = p.held == null ? null : r.marbles.get(p.held.number);
                r.pieces.add(c);
            }
            return r;
        }

        void send(Marble m, int to) {
            if (to == 9) {
                m.where = Where.RIGHT;
            } else if (to == 8 || to >= pieces.size()) {
                m.where = Where.LEFT;
            } else {
                m.where = Where.RUNS;
                m.on = to;
            }
        }

        void leave(Marble m) {
            Base p = pieces.get(m.on);
            if (p.went < 999) {
                p.went++;
            }
            p.burden = p.burden + m.weight > 9999 ? 9999 : p.burden + m.weight;
            if (p.jammed) {
                send(m, p.left);
            } else if (p instanceof Holder) {
                if (p.held == null) {
                    p.held = m;
                    m.where = Where.HELD;
                } else {
                    send(p.held, p.left);
                    send(m, p.right);
                    p.held = null;
                }
            } else if (p instanceof Gate) {
                send(m, p.point == 1 ? p.right : p.left);
                if (!(p instanceof Latch) || p.went % 2 == 0) {
                    p.point ^= 1;
                }
            } else if (p instanceof Scale) {
                send(m, p.burden % 2 == 1 ? p.left : p.right);
            } else {
                send(m, m.weight < bar ? p.left : p.right);
            }
        }

        Run go(int n) {
            for (int t = 0; t < n; t++) {
                for (Marble m : marbles) {
                    if (m.where == Where.WAITS && m.start <= tick) {
                        m.where = Where.RUNS;
                        m.on = 0;
                    }
                }
                List<Marble> running = new ArrayList<>();
                for (Marble m : marbles) {
                    if (m.where == Where.RUNS) {
                        running.add(m);
                    }
                }
                for (Marble m : running) {
                    leave(m);
                }
                tick++;
            }
            return this;
        }

        int bits(Where where) {
            int bits = 0;
            for (Marble m : marbles) {
                if (m.where == where) {
                    bits += 1 << m.number;
                }
            }
            return bits;
        }

        int many(Where where) {
            return Integer.bitCount(bits(where));
        }

        void throwAnew(Marble m, int weight) {
            m.weight = weight;
            m.start = tick;
            m.where = Where.WAITS;
        }
    }

    // ---- the object's state

    private final int[][] rows = new int[8][];
    private final int[] lanes = new int[8];
    private final StringBuilder tape = new StringBuilder();
    private Run run = null;
    private final Deque<Run> acts = new ArrayDeque<>();
    private final Run[] images = new Run[2];
    private final Map<String, Consumer<int[]>> calls = new HashMap<>();
    private List<Integer> trace = new ArrayList<>();
    private int fault = 0, status = 0;
    private long answer;

    private long found(int finding) {
        status = finding;
        return -1000010 - finding;
    }

    private long fine(long value) {
        status = 0;
        return value;
    }

    private boolean piece(int p) {
        return run != null && p >= 0 && p < run.pieces.size();
    }

    private boolean marble(int m) {
        return run != null && m >= 0 && m < run.marbles.size();
    }

    private static boolean in(int v, int low, int high) {
        return low <= v && v <= high;
    }

    private void act() {
        acts.addLast(run.copy());
        if (acts.size() > 24) {
            acts.removeFirst();
        }
    }

    long call(String name, int... a) {
        Consumer<int[]> call = calls.get(name);
        if (call == null) {
            throw new IllegalArgumentException(name);
        }
        call.accept(a);
        return answer;
    }

    Model() {
        calls.put("row", a -> answer = row(a[0], a[1], a[2]));
        calls.put("set", a -> answer = set(a[0], a[1], a[2]));
        calls.put("copy", a -> answer = copy(a[0], a[1], a[2], a[3], a[4]));
        calls.put("drop", a -> answer = drop(a[0]));
        calls.put("feed", a -> answer = feed(a[0]));
        calls.put("run", a -> answer = read());
        calls.put("fault", a -> answer = fault);
        calls.put("undo", a -> answer = undo());
        calls.put("ticks", a -> answer = ticks(a[0]));
        calls.put("tip", a -> answer = tip(a[0]));
        calls.put("lead", a -> answer = lead(a[0], a[1], a[2]));
        calls.put("again", a -> answer = again(a[0], a[1]));
        calls.put("marble", a -> answer = tellMarble(a[0], a[1]));
        calls.put("piece", a -> answer = tellPiece(a[0], a[1]));
        calls.put("stand", a -> answer = stand(a[0]));
        calls.put("ahead", a -> answer = !marble(a[0]) || !in(a[1], 0, 60) ? BAD
            : run.copy().go(a[1]).marbles.get(a[0]).told());
        calls.put("stands", a -> answer = stands(a[0], a[1], a[2]));
        calls.put("trays", a -> answer = run == null ? STATE : !in(a[0], 0, 60) || !in(a[1], 0, 1) ? BAD
            : run.copy().go(a[0]).bits(a[1] == 0 ? Where.LEFT : Where.RIGHT));
        calls.put("when", a -> answer = when(a[0]));
        calls.put("rest", a -> answer = rest());
        calls.put("tips", a -> answer = tips(a[0], a[1]));
        calls.put("order", a -> answer = order(a[0], a[1]));
        calls.put("leads", a -> answer = leads(a[0], a[1], a[2]));
        calls.put("sets", a -> answer = sets(a[0], a[1]));
        calls.put("share", a -> answer = share(a[0], a[1]));
        calls.put("byTurns", a -> answer = run == null ? STATE : !in(a[0], 0, 4) || !in(a[1], 1, 20) ? BAD
            : turns(run.copy(), true, a[0], a[1]));
        calls.put("who", a -> answer = who(a[0], a[1], a[2], a[3], a[4]));
        calls.put("weights", a -> answer = weights(a[0], a[1], a[2], a[3], a[4]));
        calls.put("jam", a -> answer = jam(a[0], a[1], a[2], a[3]));
        calls.put("drawn", a -> answer = drawn(a[0], a[1], a[2]));
        calls.put("image", a -> answer = image(a[0]));
        calls.put("restore", a -> answer = restore(a[0]));
        calls.put("kind", a -> answer = piece(a[0]) ? run.pieces.get(a[0]).kind : BAD);
        calls.put("as", a -> answer = !piece(a[0]) || !in(a[1], 0, 5) ? BAD
            : isOf(run.pieces.get(a[0]), a[1]) ? fine(a[0]) : found(3));
        calls.put("ask", a -> answer = ask(a[0], a[1]));
        calls.put("trace", a -> answer = in(a[0], 0, Math.min(16, trace.size()) - 1) ? trace.get(a[0]) : NONE);
        calls.put("count", a -> answer = count(a[0]));
        calls.put("status", a -> answer = status);
    }

    // ---- rows

    private long row(int row, int lane, int n) {
        if (!in(row, 0, 7) || !in(lane, 0, 2) || n > 40) {
            return BAD;
        }
        if (n < 0) {
            return found(4);
        }
        rows[row] = new int[n];
        lanes[row] = lane;
        return fine(n);
    }

    private long set(int row, int i, int v) {
        if (!in(row, 0, 7)) {
            return BAD;
        }
        if (rows[row] == null) {
            return found(1);
        }
        if (!in(i, 0, rows[row].length - 1)) {
            return found(2);
        }
        int[] shifts = {24, 16, 0};
        rows[row][i] = v << shifts[lanes[row]] >> shifts[lanes[row]];
        return fine(rows[row][i]);
    }

    private boolean within(int row, int i, int n) {
        return i >= 0 && n >= 0 && (long) i + n <= rows[row].length;
    }

    private long copy(int a, int i, int b, int j, int n) {
        if (!in(a, 0, 7) || !in(b, 0, 7)) {
            return BAD;
        }
        if (rows[a] == null || rows[b] == null) {
            return found(1);
        }
        if (lanes[a] != lanes[b]) {
            return found(5);
        }
        if (!within(a, i, n) || !within(b, j, n)) {
            return found(2);
        }
        int[] were = rows[a].clone();
        for (int k = 0; k < n; k++) {
            rows[b][j + k] = were[i + k];
        }
        return fine(n);
    }

    private long drop(int row) {
        if (!in(row, 0, 7)) {
            return BAD;
        }
        if (rows[row] == null) {
            return found(1);
        }
        int had = rows[row].length;
        rows[row] = null;
        return fine(had);
    }

    // ---- what is told

    private long feed(int letter) {
        if (!in(letter, 0, 255)) {
            return BAD;
        }
        if (tape.length() == 110) {
            return FULL;
        }
        tape.append((char) letter);
        return tape.length();
    }

    /** Tokens first, by a pattern; then a table of what may stand behind what. */
    private long read() {
        String text = tape.toString();
        tape.setLength(0);
        Matcher tokens = Pattern.compile("[a-z]|[0-9]+|[,;]").matcher(text);
        Run r = new Run();
        // What is due: b, bar, the law's end; then marble parts 10 .. 14, piece parts 20 .. 26.
        int state = 0;
        int at = 0;
        while (at < text.length()) {
            tokens.region(at, text.length());
            if (!tokens.lookingAt()) {
                return fails(1, at);
            }
            String token = tokens.group();
            boolean number = Character.isDigit(token.charAt(0));
            if (number && token.length() > 2) {
                return fails(1, at);
            }
            int next = number ? numberIn(r, state, Integer.parseInt(token)) : letterIn(r, state, token.charAt(0));
            if (next < 0) {
                return fails(-next, at);
            }
            state = next;
            at += token.length();
        }
        if (state != 30) {
            return fails(1, at);
        }
        run = r;
        acts.clear();
        return r.pieces.size();
    }

    private long fails(int number, int place) {
        fault = number;
        return -1000100 - place;
    }

    private static int letterIn(Run r, int state, char c) {
        int kind = "glhsw".indexOf(c) + 1;
        if (state == 0) {
            return c == 'b' ? 1 : -1;
        }
        if (state == 3 || state == 15) {
            if (c == 'm') {
                if (r.marbles.size() == 6) {
                    return -3;
                }
                Marble m = new Marble();
                m.number = r.marbles.size();
                r.marbles.add(m);
                return 11;
            }
            if (state == 3 || kind == 0) {
                return -1;
            }
        }
        if (state == 15 || state == 30) {
            if (kind == 0) {
                return -1;
            }
            if (r.pieces.size() == 8) {
                return -3;
            }
            Base p = pieceOf(kind);
            p.number = r.pieces.size();
            r.pieces.add(p);
            return 21;
        }
        String signs = "2;12,14;22,24,26;";
        Matcher due = Pattern.compile("(?<![0-9])" + state + "([,;])").matcher(signs);
        if (!due.find() || due.group(1).charAt(0) != c) {
            return -1;
        }
        return state == 2 ? 3 : state == 14 ? 15 : state == 26 ? 30 : state + 1;
    }

    private static int numberIn(Run r, int state, int v) {
        Marble m = r.marbles.isEmpty() ? null : r.marbles.get(r.marbles.size() - 1);
        Base p = r.pieces.isEmpty() ? null : r.pieces.get(r.pieces.size() - 1);
        switch (state) {
            case 1:
                r.bar = v;
                return in(v, 1, 9) ? 2 : -2;
            case 11:
                m.weight = v;
                return in(v, 1, 9) ? 12 : -2;
            case 13:
                m.start = v;
                return in(v, 0, 20) ? 14 : -2;
            case 21:
                p.point = v;
                return in(v, 0, 1) ? 22 : -2;
            case 23:
                p.left = v;
                return in(v, p.number + 1, 9) ? 24 : -2;
            case 25:
                p.right = v;
                return in(v, p.number + 1, 9) ? 26 : -2;
            default:
                return -1;
        }
    }

    private long undo() {
        if (acts.isEmpty()) {
            return STATE;
        }
        run = acts.removeLast();
        return acts.size();
    }

    // ---- what is done

    private long ticks(int n) {
        if (run == null) {
            return STATE;
        }
        if (!in(n, 1, 24)) {
            return BAD;
        }
        if (run.tick + n > 999) {
            return FULL;
        }
        for (int t = 0; t < n; t++) {
            act();
            run.go(1);
        }
        return run.bits(Where.RIGHT);
    }

    private long tip(int p) {
        if (!piece(p)) {
            return BAD;
        }
        act();
        return run.pieces.get(p).point ^= 1;
    }

    private long lead(int piece, int side, int to) {
        if (!piece(piece) || !in(side, 0, 1) || !in(to, piece + 1, 9)) {
            return BAD;
        }
        act();
        Base p = run.pieces.get(piece);
        int led = side == 0 ? p.left : p.right;
        if (side == 0) {
            p.left = to;
        } else {
            p.right = to;
        }
        return led;
    }

    private long again(int marble, int weight) {
        if (!marble(marble) || !in(weight, 1, 9)) {
            return BAD;
        }
        if (!run.marbles.get(marble).inTray()) {
            return STATE;
        }
        act();
        run.throwAnew(run.marbles.get(marble), weight);
        return run.bits(Where.WAITS);
    }

    private long tellMarble(int marble, int what) {
        if (!marble(marble) || !in(what, 0, 2)) {
            return BAD;
        }
        Marble m = run.marbles.get(marble);
        return what == 0 ? m.weight : what == 1 ? m.start : m.told();
    }

    private long tellPiece(int piece, int what) {
        if (!piece(piece) || !in(what, 0, 6)) {
            return BAD;
        }
        Base p = run.pieces.get(piece);
        int on = 0;
        for (Marble m : run.marbles) {
            if (m.where == Where.RUNS && m.on == piece) {
                on |= 1 << m.number;
            }
        }
        long[] all = {p.point, p.left, p.right, p.held == null ? NONE : p.held.number, p.went, p.burden, on};
        return all[what];
    }

    private long stand(int what) {
        if (run == null) {
            return STATE;
        }
        return what == 0 ? run.bar : in(what, 1, 5) ? run.bits(Where.values()[what - 1]) : BAD;
    }

    // ---- foretold

    private long stands(int piece, int n, int what) {
        if (!piece(piece) || !in(n, 0, 60) || !in(what, 0, 3)) {
            return BAD;
        }
        Base p = run.copy().go(n).pieces.get(piece);
        long[] all = {p.point, p.held == null ? NONE : p.held.number, p.went, p.burden};
        return all[what];
    }

    private long when(int marble) {
        if (!marble(marble)) {
            return BAD;
        }
        for (int n = 0; n <= 60; n++) {
            if (run.copy().go(n).marbles.get(marble).inTray()) {
                return n;
            }
        }
        return NONE;
    }

    private long rest() {
        if (run == null) {
            return STATE;
        }
        for (int n = 0; n <= 60; n++) {
            Run r = run.copy().go(n);
            if (r.many(Where.WAITS) == 0 && r.many(Where.RUNS) == 0) {
                return n;
            }
        }
        return NONE;
    }

    private long tips(int n, int what) {
        if (run == null) {
            return STATE;
        }
        if (!in(n, 1, 40) || !in(what, 0, 1)) {
            return BAD;
        }
        long best = Long.MIN_VALUE;
        for (int bits = 0; bits < 1 << run.pieces.size(); bits++) {
            Run r = run.copy();
            for (Base p : r.pieces) {
                p.point ^= bits >> p.number & 1;
            }
            // One number for all three wishes: many right, few pieces, least bits.
            long worth = r.go(n).many(Where.RIGHT) * 1000000L - Integer.bitCount(bits) * 1000L - bits;
            best = Math.max(best, worth);
        }
        long many = Math.floorDiv(best + 999999, 1000000L);
        long rest = many * 1000000 - best;
        return what == 1 ? many : rest % 1000;
    }

    private long order(int n, int k) {
        if (run == null) {
            return STATE;
        }
        if (!in(n, 1, 40) || k < -1) {
            return BAD;
        }
        if (k >= run.marbles.size()) {
            return NONE;
        }
        List<Integer> best = new ArrayList<>();
        long most = orders(n, new ArrayList<>(), best, -1);
        return k == -1 ? most : best.get(k);
    }

    private long orders(int n, List<Integer> given, List<Integer> best, long most) {
        if (given.size() == run.marbles.size()) {
            Run r = run.copy();
            for (Marble m : r.marbles) {
                m.weight = run.marbles.get(given.get(m.number)).weight;
            }
            r.go(n);
            long weight = 0;
            for (Marble m : r.marbles) {
                weight += m.where == Where.RIGHT ? m.weight : 0;
            }
            if (weight > most) {
                best.clear();
                best.addAll(given);
            }
            return Math.max(weight, most);
        }
        long result = most;
        for (int m = 0; m < run.marbles.size(); m++) {
            if (!given.contains(m)) {
                given.add(m);
                result = orders(n, given, best, result);
                given.remove(given.size() - 1);
            }
        }
        return result;
    }

    private long leads(int piece, int n, int what) {
        if (!piece(piece) || !in(n, 1, 40) || !in(what, 0, 1)) {
            return BAD;
        }
        int whither = 0;
        int most = -1;
        for (int to = 9; to > piece; to--) {
            Run r = run.copy();
            r.pieces.get(piece).right = to;
            int many = r.go(n).many(Where.RIGHT);
            if (many >= most) {
                most = many;
                whither = to;
            }
        }
        return what == 0 ? whither : most;
    }

    private long sets(int v, int what) {
        if (run == null) {
            return STATE;
        }
        if (!in(v, 0, 54) || !in(what, 0, 2)) {
            return BAD;
        }
        List<Integer> fit = new ArrayList<>();
        for (int bits = 0; bits < 1 << run.marbles.size(); bits++) {
            int sum = 0;
            boolean free = true;
            for (Marble m : run.marbles) {
                if ((bits & 1 << m.number) != 0) {
                    sum += m.weight;
                    free &= !m.inTray();
                }
            }
            if (free && sum == v) {
                fit.add(bits);
            }
        }
        int all = fit.isEmpty() ? 0 : -1;
        int any = 0;
        for (int bits : fit) {
            all &= bits;
            any |= bits;
        }
        return what == 0 ? fit.size() : what == 1 ? all : any;
    }

    private long share(int piece, int n) {
        if (!piece(piece) || !in(n, 0, 999)) {
            return BAD;
        }
        int all = 0;
        for (Base p : run.pieces) {
            all += p.went;
        }
        if (all == 0) {
            return 0;
        }
        int[] parts = new int[run.pieces.size()];
        int over = n;
        for (Base p : run.pieces) {
            parts[p.number] = n * p.went / all;
            over -= parts[p.number];
        }
        for (Base p : run.pieces) {
            if (p.went > 0 && over > 0) {
                parts[p.number]++;
                over--;
            }
        }
        return parts[piece];
    }

    private static long turns(Run r, boolean great, int n, int m) {
        if (n == 0) {
            r.go(m);
            return r.many(Where.RIGHT) - r.many(Where.LEFT);
        }
        long best = turns(r.copy(), !great, n - 1, m);
        for (int p = 0; p < r.pieces.size(); p++) {
            Run tipped = r.copy();
            tipped.pieces.get(p).point ^= 1;
            long worth = turns(tipped, !great, n - 1, m);
            best = great ? Math.max(best, worth) : Math.min(best, worth);
        }
        return best;
    }

    private boolean fits(Run r, int row, int i, int n) {
        boolean all = true;
        for (int t = 0; t < n; t++) {
            r.go(1);
            all &= rows[row][i + t] == r.many(Where.LEFT) + 10 * r.many(Where.RIGHT);
        }
        return all;
    }

    private long who(int piece, int which, int row, int i, int n) {
        if (!piece(piece) || !in(which, 0, 1) || !in(row, 0, 7) || !in(n, 1, 12)) {
            return BAD;
        }
        if (rows[row] == null) {
            return found(1);
        }
        if (!within(row, i, n)) {
            return found(2);
        }
        int bits = 0;
        for (int v = which == 0 ? 1 : 0; v <= (which == 0 ? 5 : 1); v++) {
            Run r = which == 0 ? run.copy(piece, v) : run.copy();
            if (which == 1) {
                r.pieces.get(piece).point = v;
            }
            bits |= fits(r, row, i, n) ? 1 << v : 0;
        }
        return fine(bits);
    }

    private long weights(int marble, int which, int row, int i, int n) {
        if (!marble(marble) || !in(which, 0, 1) || !in(row, 0, 7) || !in(n, 1, 12)) {
            return BAD;
        }
        if (rows[row] == null) {
            return found(1);
        }
        if (!within(row, i, n)) {
            return found(2);
        }
        int bits = 0;
        for (int v = 1; v <= 9; v++) {
            Run r = run.copy();
            if (which == 0) {
                r.marbles.get(marble).weight = v;
            } else {
                r.bar = v;
            }
            bits |= fits(r, row, i, n) ? 1 << v : 0;
        }
        return fine(bits);
    }

    private long jam(int marble, int n, int p, int what) {
        if (!marble(marble) || !in(n, 0, 30) || !in(p, 0, 10) || !in(what, 0, 1)) {
            return BAD;
        }
        long above = jamFrom(run.copy(), 0, marble, n, p);
        long below = 1;
        for (int k = 0; k < run.pieces.size(); k++) {
            below *= 10;
        }
        for (int prime : new int[] {2, 5}) {
            while (above % prime == 0 && below % prime == 0) {
                above /= prime;
                below /= prime;
            }
        }
        return what == 0 ? above : below;
    }

    private static long jamFrom(Run r, int piece, int marble, int n, int p) {
        if (piece == r.pieces.size()) {
            return r.go(n).marbles.get(marble).where == Where.RIGHT ? 1 : 0;
        }
        Run jammed = r.copy();
        jammed.pieces.get(piece).jammed = true;
        return p * jamFrom(jammed, piece + 1, marble, n, p) + (10 - p) * jamFrom(r.copy(), piece + 1, marble, n, p);
    }

    private long drawn(int n, int seed, int what) {
        if (run == null) {
            return STATE;
        }
        if (!in(n, 0, 60) || !in(seed, 1, 999999) || !in(what, 0, 1)) {
            return BAD;
        }
        Run r = run.copy();
        Where tray = what == 0 ? Where.RIGHT : Where.LEFT;
        long x = seed;
        int came = 0;
        for (int t = 0; t < n; t++) {
            x = x * 16807 % 2147483647L;
            Marble m = r.marbles.get((int) (x % r.marbles.size()));
            if (m.inTray()) {
                r.throwAnew(m, (int) (x % 9) + 1);
            } else if (x % 3 == 0) {
                r.pieces.get((int) (x % r.pieces.size())).point ^= 1;
            }
            int before = r.many(tray);
            came += r.go(1).many(tray) - before;
        }
        return came;
    }

    private long image(int k) {
        if (!in(k, 0, 1)) {
            return BAD;
        }
        if (run == null) {
            return STATE;
        }
        images[k] = run.copy();
        return 1;
    }

    private long restore(int k) {
        if (!in(k, 0, 1)) {
            return BAD;
        }
        if (images[k] == null) {
            return STATE;
        }
        run = images[k].copy();
        acts.clear();
        return 1;
    }

    // ---- asked

    private long ask(int one, int what) {
        if (!piece(one) || !in(what, 0, 1)) {
            return BAD;
        }
        trace = new ArrayList<>();
        Piece p = run.pieces.get(one);
        return what == 0 ? p.size(trace) : p.mark(trace);
    }

    private long count(int what) {
        int present = 0;
        for (int[] row : rows) {
            present += row == null ? 0 : 1;
        }
        int went = 0;
        if (run != null) {
            for (Base p : run.pieces) {
                went += p.went;
            }
        }
        long[] all = {present, run == null ? 0 : run.pieces.size(), run == null ? 0 : run.marbles.size(),
            run == null ? 0 : run.tick, run == null ? 0 : run.many(Where.RUNS), went, acts.size(), tape.length()};
        return in(what, 0, 7) ? all[what] : BAD;
    }
}
