import java.util.ArrayList;
import java.util.Arrays;
import java.util.List;
import java.util.Random;

/**
 * What is foretold comes true: in drawn states, each answer is compared with what the calls that do it (ticks, tip,
 * lead, again, or another text) bring about on objects made likewise.
 */
public final class ComesTrueTest {
    private static final Due due = new Due("ComesTrueTest");
    private static final Random draw = new Random(20261118);
    private static final String SORTS = "glhsw";

    private int bar;
    private int[] weights;
    private int[] starts;
    private String[] pieces;
    private final List<String> acts = new ArrayList<>();

    public static void main(String[] args) {
        for (int k = 0; k < 60; k++) {
            ComesTrueTest later = drawnState(6, 8);
            later.drawActs(2 + draw.nextInt(24));
            later.laterStands();
            later.laterBest();
            later.laterCounts();
            later.laterRows();
            later.laterChances();
            ComesTrueTest few = drawnState(4, 3);
            few.drawActs(draw.nextInt(8));
            few.turns();
            few.laterChances();
            ComesTrueTest atFirst = drawnState(4, 4);
            atFirst.orders();
            atFirst.fitsOfTexts();
        }
        due.end();
    }

    // ---- states, and objects made likewise

    private static ComesTrueTest drawnState(int mostMarbles, int mostPieces) {
        ComesTrueTest s = new ComesTrueTest();
        s.bar = 1 + draw.nextInt(9);
        int many = 1 + draw.nextInt(mostMarbles);
        s.weights = new int[many];
        s.starts = new int[many];
        for (int m = 0; m < many; m++) {
            s.weights[m] = 1 + draw.nextInt(9);
            s.starts[m] = draw.nextInt(draw.nextInt(4) == 0 ? 21 : 4);
        }
        s.pieces = new String[1 + draw.nextInt(mostPieces)];
        for (int p = 0; p < s.pieces.length; p++) {
            s.pieces[p] = SORTS.charAt(draw.nextInt(5)) + "" + draw.nextInt(2) + "," + s.drawnWay(p) + "," + s.drawnWay(p) + ";";
        }
        return s;
    }

    private int drawnWay(int p) {
        return draw.nextInt(3) == 0 ? 8 + draw.nextInt(2) : p + 1 + draw.nextInt(9 - p);
    }

    /** Only acts that are not refused as the run stands then. */
    private void drawActs(int many) {
        for (int k = 0; k < many; k++) {
            int p = draw.nextInt(pieces.length);
            String[] choices = {"ticks " + (1 + draw.nextInt(3)), "tip " + p,
                "lead " + p + " " + draw.nextInt(2) + " " + drawnWay(p),
                "again " + draw.nextInt(weights.length) + " " + (1 + draw.nextInt(9))};
            String act = choices[draw.nextInt(4)];
            if (Calls.answerLine(make(), act) >= 0) {
                acts.add(act);
            }
        }
    }

    private String text() {
        StringBuilder s = new StringBuilder("b" + bar + ";");
        for (int m = 0; m < weights.length; m++) {
            s.append('m').append(weights[m]).append(',').append(starts[m]).append(';');
        }
        for (String piece : pieces) {
            s.append(piece);
        }
        return s.toString();
    }

    private MarbleRun make(String... more) {
        MarbleRun x = Due.told(text());
        for (String act : acts) {
            Calls.answerLine(x, act);
        }
        for (String act : more) {
            Calls.answerLine(x, act);
        }
        return x;
    }

    private static MarbleRun passed(MarbleRun x, int n) {
        for (int left = n; left > 0; left -= 24) {
            x.ticks(Math.min(24, left));
        }
        return x;
    }

    private static int rightOnes(MarbleRun x) {
        return Integer.bitCount(x.stand(5));
    }

    private String in(String what) {
        return what + " in " + text() + " " + acts;
    }

    // ---- how it will stand

    private void laterStands() {
        for (int n : new int[] {0, 1, 2, 3, 5, 8, 13, 24, 60}) {
            MarbleRun x = make();
            MarbleRun then = passed(make(), n);
            for (int m = 0; m < weights.length; m++) {
                due.is(in("ahead " + m + " " + n), x.ahead(m, n), then.marble(m, 2));
            }
            for (int p = 0; p < pieces.length; p++) {
                int[] whats = {0, 3, 4, 5};
                for (int what = 0; what <= 3; what++) {
                    due.is(in("stands " + p + " " + n + " " + what), x.stands(p, n, what), then.piece(p, whats[what]));
                }
            }
            due.is(in("trays " + n + " 0"), x.trays(n, 0), then.stand(4));
            due.is(in("trays " + n + " 1"), x.trays(n, 1), then.stand(5));
        }
        MarbleRun x = make();
        due.is(in("rest"), x.rest(), ticksUntil(-1));
        for (int m = 0; m < weights.length; m++) {
            due.is(in("when " + m), x.when(m), ticksUntil(m));
        }
    }

    /** Until the marble is in a tray; of -1, until none waits or runs. */
    private int ticksUntil(int marble) {
        MarbleRun x = make();
        for (int t = 0; t <= 60; t++) {
            int left = marble < 0 ? x.stand(1) | x.stand(2) : ~(x.stand(4) | x.stand(5)) >> marble & 1;
            if (left == 0) {
                return t;
            }
            x.ticks(1);
        }
        return Due.NONE;
    }

    // ---- what is best

    private void laterBest() {
        int n = 1 + draw.nextInt(draw.nextBoolean() ? 6 : 40);
        int best = 0;
        int most = -1;
        for (int bits = 0; bits < 1 << pieces.length; bits++) {
            int many = rightOnes(passed(tipped(bits), n));
            if (many > most || (many == most && Integer.bitCount(bits) < Integer.bitCount(best))) {
                most = many;
                best = bits;
            }
        }
        due.is(in("tips " + n + " 0"), make().tips(n, 0), best);
        due.is(in("tips " + n + " 1"), make().tips(n, 1), most);
        for (int p = 0; p < pieces.length; p++) {
            lead(p, n);
        }
    }

    private MarbleRun tipped(int bits) {
        MarbleRun x = make();
        for (int p = 0; p < pieces.length; p++) {
            if ((bits >> p & 1) != 0) {
                x.tip(p);
            }
        }
        return x;
    }

    private void lead(int p, int n) {
        int best = 0;
        int most = -1;
        for (int to = p + 1; to <= 9; to++) {
            int many = rightOnes(passed(make("lead " + p + " 1 " + to), n));
            if (many > most) {
                most = many;
                best = to;
            }
        }
        due.is(in("leads " + p + " " + n + " 0"), make().leads(p, n, 0), best);
        due.is(in("leads " + p + " " + n + " 1"), make().leads(p, n, 1), most);
    }

    private void turns() {
        int m = 1 + draw.nextInt(20);
        for (int n = 0; n <= 3; n++) {
            due.is(in("byTurns " + n + " " + m), make().byTurns(n, m), worth(n, m, 0, 0));
        }
    }

    private int worth(int n, int m, int turn, int bits) {
        if (turn == n) {
            MarbleRun x = passed(tipped(bits), m);
            return rightOnes(x) - Integer.bitCount(x.stand(4));
        }
        int worth = worth(n, m, turn + 1, bits);
        for (int p = 0; p < pieces.length; p++) {
            int other = worth(n, m, turn + 1, bits ^ 1 << p);
            worth = turn % 2 == 0 ? Math.max(worth, other) : Math.min(worth, other);
        }
        return worth;
    }

    private void orders() {
        int n = 1 + draw.nextInt(30);
        int[] kept = weights;
        int most = -1;
        int[] best = {};
        for (int[] order : ordersOf(kept.length)) {
            weights = Arrays.stream(order).map(k -> kept[k]).toArray();
            int bits = passed(make(), n).stand(5);
            int sum = 0;
            for (int m = 0; m < weights.length; m++) {
                sum += (bits >> m & 1) * weights[m];
            }
            if (sum > most) {
                most = sum;
                best = order;
            }
        }
        weights = kept;
        due.is(in("order " + n + " -1"), make().order(n, -1), most);
        for (int k = 0; k < kept.length; k++) {
            due.is(in("order " + n + " " + k), make().order(n, k), best[k]);
        }
    }

    private static List<int[]> ordersOf(int many) {
        List<int[]> all = new ArrayList<>();
        addOrders(new int[many], 0, all);
        return all;
    }

    private static void addOrders(int[] order, int k, List<int[]> all) {
        if (k == order.length) {
            all.add(order.clone());
            return;
        }
        for (int v = 0; v < order.length; v++) {
            int one = v;
            if (Arrays.stream(order, 0, k).noneMatch(w -> w == one)) {
                order[k] = v;
                addOrders(order, k + 1, all);
            }
        }
    }

    // ---- sets and shares

    private void laterCounts() {
        MarbleRun x = make();
        int inTrays = x.stand(4) | x.stand(5);
        int[] weightsNow = new int[weights.length];
        for (int m = 0; m < weights.length; m++) {
            weightsNow[m] = x.marble(m, 0);
        }
        int[] many = new int[55];
        int[] inAll = new int[55];
        int[] inAny = new int[55];
        for (int bits = 0; bits < 1 << weights.length; bits++) {
            int sum = 0;
            for (int m = 0; m < weights.length; m++) {
                sum += (bits >> m & 1) * weightsNow[m];
            }
            if ((bits & inTrays) == 0) {
                inAll[sum] = many[sum] == 0 ? bits : inAll[sum] & bits;
                inAny[sum] |= bits;
                many[sum]++;
            }
        }
        for (int v = 0; v <= 54; v++) {
            due.is(in("sets " + v + " 0"), x.sets(v, 0), many[v]);
            due.is(in("sets " + v + " 1"), x.sets(v, 1), inAll[v]);
            due.is(in("sets " + v + " 2"), x.sets(v, 2), inAny[v]);
        }
        shares(draw.nextInt(1000));
    }

    private void shares(int n) {
        MarbleRun x = make();
        int all = x.count(5);
        int[] gets = new int[pieces.length];
        int over = all == 0 ? 0 : n;
        for (int p = 0; p < pieces.length && all > 0; p++) {
            gets[p] = n * x.piece(p, 4) / all;
            over -= gets[p];
        }
        for (int p = 0; p < pieces.length; p++) {
            if (over > 0 && x.piece(p, 4) > 0) {
                gets[p]++;
                over--;
            }
            due.is(in("share " + p + " " + n), x.share(p, n), gets[p]);
        }
    }

    // ---- what fits

    private static int[] traysOf(MarbleRun x, int n) {
        int[] told = new int[n];
        for (int t = 0; t < n; t++) {
            x.ticks(1);
            told[t] = Integer.bitCount(x.stand(4)) + 10 * rightOnes(x);
        }
        return told;
    }

    private static int bitIf(boolean fits, int k) {
        return fits ? 1 << k : 0;
    }

    private void laterRows() {
        int n = 1 + draw.nextInt(12);
        for (int p = 0; p < pieces.length; p++) {
            int turned = make().piece(p, 0) == 0 ? 1 : 0;
            int[] asItIs = traysOf(make(), n);
            int[] tipped = traysOf(make("tip " + p), n);
            for (int[] told : new int[][] {asItIs, tipped}) {
                MarbleRun x = make();
                Due.fill(x, 3, told);
                int fit = bitIf(Arrays.equals(told, asItIs), 1 - turned) | bitIf(Arrays.equals(told, tipped), turned);
                due.is(in("who " + p + " 1 by " + Arrays.toString(told)), x.who(p, 1, 3, 0, n), fit);
            }
        }
    }

    private void fitsOfTexts() {
        int n = 1 + draw.nextInt(12);
        int[] told = traysOf(make(), n);
        MarbleRun x = make();
        Due.fill(x, 0, told);
        for (int p = 0; p < pieces.length; p++) {
            String kept = pieces[p];
            int fit = 0;
            for (int kind = 1; kind <= 5; kind++) {
                pieces[p] = SORTS.charAt(kind - 1) + kept.substring(1);
                fit |= bitIf(Arrays.equals(traysOf(make(), n), told), kind);
            }
            pieces[p] = kept;
            due.is(in("who " + p + " 0"), x.who(p, 0, 0, 0, n), fit);
        }
        for (int m = 0; m < weights.length; m++) {
            int kept = weights[m];
            int fit = 0;
            for (weights[m] = 1; weights[m] <= 9; weights[m]++) {
                fit |= bitIf(Arrays.equals(traysOf(make(), n), told), weights[m]);
            }
            weights[m] = kept;
            due.is(in("weights " + m + " 0"), x.weights(m, 0, 0, 0, n), fit);
        }
        int kept = bar;
        int fit = 0;
        for (bar = 1; bar <= 9; bar++) {
            fit |= bitIf(Arrays.equals(traysOf(make(), n), told), bar);
        }
        bar = kept;
        due.is(in("bars"), x.weights(0, 1, 0, 0, n), fit);
    }

    // ---- chance

    private void laterChances() {
        int days = draw.nextInt(31);
        int seed = 1 + draw.nextInt(999999);
        int[] came = cameInFact(days, seed);
        due.is(in("drawn " + days + " " + seed + " 0"), make().drawn(days, seed, 0), came[1]);
        due.is(in("drawn " + days + " " + seed + " 1"), make().drawn(days, seed, 1), came[0]);
        // A jammed piece is as one of which both sides lead to LEFT, but for holders.
        if (!text().contains("h")) {
            jams(draw.nextInt(31), draw.nextInt(11));
        }
    }

    private int[] cameInFact(int days, int seed) {
        MarbleRun x = make();
        int[] came = new int[2];
        long drawn = seed;
        for (int day = 0; day < days; day++) {
            drawn = drawn * 16807 % 2147483647L;
            int marble = (int) (drawn % weights.length);
            if (x.again(marble, (int) (drawn % 9) + 1) == Due.STATE && drawn % 3 == 0) {
                x.tip((int) (drawn % pieces.length));
            }
            int left = x.stand(4);
            int right = x.stand(5);
            x.ticks(1);
            came[0] += Integer.bitCount(x.stand(4) & ~left);
            came[1] += Integer.bitCount(x.stand(5) & ~right);
        }
        return came;
    }

    private void jams(int n, int p) {
        long all = (long) Math.pow(10, pieces.length);
        long[] cases = new long[weights.length];
        for (int bits = 0; bits < 1 << pieces.length; bits++) {
            MarbleRun x = make();
            long weight = 1;
            for (int k = 0; k < pieces.length; k++) {
                boolean jammed = (bits >> k & 1) != 0;
                weight *= jammed ? p : 10 - p;
                if (jammed) {
                    x.lead(k, 1, x.piece(k, 1));
                }
            }
            passed(x, n);
            for (int m = 0; m < weights.length; m++) {
                cases[m] += (x.stand(5) >> m & 1) * weight;
            }
        }
        for (int m = 0; m < weights.length; m++) {
            MarbleRun x = make();
            long above = x.jam(m, n, p, 0);
            long below = x.jam(m, n, p, 1);
            due.is(in("jam " + m + " " + n + " " + p), above * all, below * cases[m]);
            due.is(in("its lowest terms"), greatestOfBoth(above, below), 1);
        }
    }

    private static long greatestOfBoth(long a, long b) {
        return b == 0 ? Math.abs(a) : greatestOfBoth(b, a % b);
    }
}
