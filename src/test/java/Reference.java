import java.util.ArrayDeque;
import java.util.ArrayList;
import java.util.Arrays;
import java.util.Deque;
import java.util.HashMap;
import java.util.List;
import java.util.Map;
import java.util.regex.Matcher;
import java.util.regex.Pattern;

/** The document said once more, slowly and in another way than the program: by stocks, recursion, snapshots and patterns. */
final class Reference {
    static final int BAD = -1, NOT = -2, FULL = -3, STATE = -5, LONG = -7, FAR = -10000;
    private static final String[] WORDS = {"demand", "setup", "making", "holding", "late", "room"};
    private static final int[] LIMIT = {99, 999, 99, 99, 99, 999};

    record Lot(int a, int b, int m) {
    }

    /** The least plan of some periods: cost, its lots, how many plans cost as much, where the last lot of any of them begins at most. */
    record Least(int cost, List<Lot> lots, long ways, int last) {
    }

    record Snapshot(int n, int[][] num, int store, int late, int[] hand) {
    }

    record Made(int cost, List<Integer> made) {
    }

    private int n = 8;
    private int[][] num = new int[16][];
    private int store = 999;
    private int late = 0;
    private int[] hand = new int[16];
    private String tape = "";
    private final long[][] shelves = new long[4][];
    private final Deque<Snapshot> undone = new ArrayDeque<>();
    private final Deque<Snapshot> done = new ArrayDeque<>();
    private Snapshot image = null;

    Reference() {
        for (int p = 0; p < 16; p++) num[p] = fresh();
    }

    private static int[] fresh() {
        return new int[] {0, 50, 1, 1, 5, 999};
    }

    // ---- what it is made of

    private Snapshot snapshot() {
        int[][] copy = new int[16][];
        for (int p = 0; p < 16; p++) copy[p] = num[p].clone();
        return new Snapshot(n, copy, store, late, hand.clone());
    }

    private void lay(Snapshot s) {
        for (int p = 0; p < 16; p++) num[p] = s.num[p].clone();
        store = s.store;
        late = s.late;
    }

    /** To be called ahead of a change. */
    private void change() {
        undone.clear();
        done.addLast(snapshot());
        while (done.size() > 12) done.removeFirst();
    }

    private boolean period(int p) {
        return p >= 0 && p < n;
    }

    private static boolean number(int which, int v) {
        return which >= 0 && which <= 5 && v >= 0 && v <= LIMIT[which];
    }

    private int demanded(int a, int b) {
        int sum = 0;
        for (int p = a; p <= b; p++) sum += num[p][0];
        return sum;
    }

    private int behind(int p, int stock) {
        return stock >= 0 ? stock * num[p][3] : -stock * num[p][4];
    }

    int costOf(Lot lot) {
        int pieces = demanded(lot.a, lot.b);
        int cost = num[lot.m][1] + num[lot.m][2] * pieces;
        for (int p = lot.a, stock = 0; p <= lot.b; p++) {
            if (p == lot.m) stock += pieces;
            stock -= num[p][0];
            cost += behind(p, stock);
        }
        return cost;
    }

    /** The lots that may be first in a plan of a .. end - 1, that which ends first first, then that which is made first. */
    List<Lot> firstLots(int a, int end) {
        List<Lot> lots = new ArrayList<>();
        for (int b = a; b < end; b++) {
            if (demanded(a, b) == 0) continue;
            for (int m = a; m <= b; m++) {
                if (late == 1 || demanded(a, m - 1) == 0) lots.add(new Lot(a, b, m));
            }
        }
        return lots;
    }

    Least least(int a, int end) {
        return least(a, end, new HashMap<>());
    }

    private Least least(int a, int end, Map<Integer, Least> known) {
        if (demanded(a, end - 1) == 0) return new Least(0, List.of(), 1, NOT);
        Least best = known.get(a);
        if (best != null) return best;
        for (Lot lot : firstLots(a, end)) {
            Least rest = least(lot.b + 1, end, known);
            int cost = costOf(lot) + rest.cost;
            int last = rest.lots.isEmpty() ? a : rest.last;
            if (best == null || cost < best.cost) {
                List<Lot> lots = new ArrayList<>(List.of(lot));
                lots.addAll(rest.lots);
                best = new Least(cost, lots, rest.ways, last);
            } else if (cost == best.cost) {
                best = new Least(cost, best.lots, best.ways + rest.ways, Math.max(best.last, last));
            }
        }
        known.put(a, best);
        return best;
    }

    private Least plan() {
        return least(0, n);
    }

    private int[] madeBy(Least plan) {
        int[] made = new int[16];
        for (Lot lot : plan.lots) made[lot.m] += demanded(lot.a, lot.b);
        return made;
    }

    private int stockBehind(int[] made, int p) {
        int stock = 0;
        for (int q = 0; q <= p; q++) stock += made[q] - num[q][0];
        return stock;
    }

    /** The least of what may be made from p on with a stock ahead of it; null: none may. */
    Made leastBounded(int p, int stock, Map<Integer, Made> known) {
        if (p == n) return stock == 0 ? new Made(0, List.of()) : null;
        int key = p * 1000 + stock + 200;
        if (known.containsKey(key)) return known.get(key);
        Made best = null;
        int wanted = demanded(p, n - 1) - stock;
        for (int made = 0; made <= Math.min(wanted, num[p][5]); made++) {
            int then = stock + made - num[p][0];
            if (then > store || (then < 0 && late == 0)) continue;
            Made rest = leastBounded(p + 1, then, known);
            if (rest == null) continue;
            int cost = rest.cost + behind(p, then) + (made > 0 ? num[p][1] + made * num[p][2] : 0);
            if (best == null || cost < best.cost) {
                List<Integer> all = new ArrayList<>(List.of(made));
                all.addAll(rest.made);
                best = new Made(cost, all);
            }
        }
        known.put(key, best);
        return best;
    }

    private List<Lot> lotsBy(int rule, int every) {
        List<Lot> lots = new ArrayList<>();
        int a = 0;
        while (demanded(a, n - 1) > 0) {
            while (num[a][0] == 0) a++;
            int b = a;
            while (b + 1 < n && takes(rule, every, a, b + 1)) b++;
            lots.add(new Lot(a, b, a));
            a = b + 1;
        }
        return lots;
    }

    /** Whether a lot from a on takes period q, too. */
    private boolean takes(int rule, int every, int a, int q) {
        if (rule == 0) return num[q][0] == 0;
        if (rule == 1) return q < a + every;
        int setup = num[a][1];
        long with = holdingOf(a, q);
        if (rule == 3) return with <= setup;
        long without = holdingOf(a, q - 1);
        return (setup + with) * (q - a) <= (setup + without) * (q - a + 1);
    }

    private int holdingOf(int a, int b) {
        return costOf(new Lot(a, b, a)) - num[a][1] - num[a][2] * demanded(a, b);
    }

    // ---- periods

    int periods(int to) {
        if (to < 1 || to > 16) return BAD;
        int was = n;
        if (to == was) return was;
        for (int p = 0; p < 16; p++) {
            if (p < was && p < to) continue;
            num[p] = fresh();
            hand[p] = 0;
        }
        n = to;
        done.clear();
        undone.clear();
        return was;
    }

    int tell(int p, int which, int v) {
        if (!period(p) || !number(which, v)) return BAD;
        change();
        int was = num[p][which];
        num[p][which] = v;
        return was;
    }

    int tellAll(int first, int last, int which, int v) {
        if (!period(first) || !period(last) || first > last || !number(which, v)) return BAD;
        change();
        for (int p = first; p <= last; p++) num[p][which] = v;
        return last - first + 1;
    }

    int let(int what, int v) {
        if (what == 0 && v >= 0 && v <= 999) {
            change();
            int was = store;
            store = v;
            return was;
        }
        if (what == 1 && (v == 0 || v == 1)) {
            change();
            int was = late;
            late = v;
            return was;
        }
        return BAD;
    }

    int of(int p, int which) {
        return period(p) && which >= 0 && which < 6 ? num[p][which] : BAD;
    }

    int feed(int letter) {
        if (letter < 32 || letter > 126) return BAD;
        if (tape.length() == 120) return FULL;
        tape += (char) letter;
        return tape.length();
    }

    int read() {
        String text = tape;
        tape = "";
        List<int[]> told = new ArrayList<>();
        int fault = parse(text, told);
        if (fault >= 0) return -100 - fault;
        change();
        for (int[] clause : told) {
            for (int p = 0; p < n; p++) if (clause[1] < 0 || clause[1] == p) num[p][clause[0]] = clause[2];
        }
        return told.size();
    }

    /** The fault; below 0: none. */
    private int parse(String text, List<int[]> told) {
        int at = 0;
        while (true) {
            String word = taken("[a-z]*", text, at);
            int which = Arrays.asList(WORDS).indexOf(word);
            if (which < 0) return at;
            at += word.length();
            if (taken(" ", text, at) == null) return at;
            at++;
            String where = taken("\\*|[0-9]{1,2}", text, at);
            if (where == null || (!where.equals("*") && Integer.parseInt(where) >= n)) return at;
            at += where.length();
            if (taken(" ", text, at) == null) return at;
            at++;
            String v = taken("[0-9]{1,3}", text, at);
            if (v == null || !number(which, Integer.parseInt(v))) return at;
            at += v.length();
            told.add(new int[] {which, where.equals("*") ? -1 : Integer.parseInt(where), Integer.parseInt(v)});
            if (at == text.length()) return -1;
            if (taken(";", text, at) == null) return at;
            at++;
        }
    }

    private static String taken(String pattern, String text, int at) {
        Matcher m = Pattern.compile(pattern).matcher(text).region(at, text.length());
        return m.lookingAt() ? m.group() : null;
    }

    // ---- the plan

    int least() {
        return plan().cost;
    }

    int lot(int k, int what) {
        if (k < -1) return BAD;
        List<Lot> lots = plan().lots;
        if (k == -1) return lots.size();
        if (what < 0 || what > 4) return BAD;
        if (k >= lots.size()) return NOT;
        Lot lot = lots.get(k);
        return new int[] {lot.a, lot.b, lot.m, demanded(lot.a, lot.b), costOf(lot)}[what];
    }

    int by(int p, int what) {
        if (!period(p) || what < 0 || what > 1) return FAR;
        int[] made = madeBy(plan());
        return what == 0 ? made[p] : stockBehind(made, p);
    }

    int forward(int t, int what) {
        if (t < 0 || t > n || what < 0 || what > 2) return BAD;
        Least part = least(0, t);
        if (what == 0) return part.cost;
        if (what == 1) return part.last;
        if (part.last == NOT || calm() == 0 || demanded(part.last + 1, t - 1) > 0) return 0;
        return part.last;
    }

    int calm() {
        boolean calm = late == 0;
        for (int p = 0; p + 1 < n; p++) calm &= num[p + 1][2] <= num[p][2] + num[p][3];
        return calm ? 1 : 0;
    }

    int part(int a, int end) {
        if (a < 0 || a > n || end < 0 || end > n || a > end) return BAD;
        return least(a, end).cost;
    }

    int ways() {
        return (int) Math.min(9999, plan().ways);
    }

    // ---- bounded, rules

    int bounded(int p) {
        if (p < -1 || p >= n) return BAD;
        if (demanded(0, n - 1) > 120) return LONG;
        Made least = leastBounded(0, 0, new HashMap<>());
        if (least == null) return NOT;
        return p == -1 ? least.cost : least.made.get(p);
    }

    int rule(int rule, int every, int what) {
        if (rule < 0 || rule > 3 || what < 0 || what > 2) return BAD;
        if (rule == 1 && (every < 1 || every > 16)) return BAD;
        List<Lot> lots = lotsBy(rule, every);
        if (what == 0) return lots.stream().mapToInt(this::costOf).sum();
        if (what == 1) return lots.size();
        return lots.stream().mapToInt(lot -> 1 << lot.a).sum();
    }

    int thumb() {
        int[] all = new int[19];
        for (int i = 1; i <= 16; i++) all[i] = 100 + i;
        all[17] = 200;
        all[18] = 300;
        int best = 0;
        for (int one : all) if (rule(one / 100, one % 100, 0) < rule(best / 100, best % 100, 0)) best = one;
        return best;
    }

    // ---- in thought

    int more(int p) {
        if (!period(p) || num[p][0] == 99) return FAR;
        int now = least();
        num[p][0]++;
        int then = least();
        num[p][0]--;
        return then - now;
    }

    int keeps(int p) {
        if (!period(p)) return BAD;
        if (by(p, 0) == 0) return NOT;
        int was = num[p][1];
        int v = 999;
        for (num[p][1] = v; by(p, 0) == 0; num[p][1] = v) v--;
        num[p][1] = was;
        return v;
    }

    int touched(int p, int v, int what) {
        if (!period(p) || !number(0, v) || what < 0 || what > 2) return FAR;
        Least now = plan();
        int[] madeNow = madeBy(now);
        int was = num[p][0];
        num[p][0] = v;
        Least then = plan();
        int[] madeThen = madeBy(then);
        num[p][0] = was;
        if (what == 2) return then.cost - now.cost;
        if (what == 1) return Arrays.mismatch(madeNow, madeThen) < 0 ? NOT : Arrays.mismatch(madeNow, madeThen);
        int many = 0;
        for (int q = 0; q < n; q++) if (madeNow[q] != madeThen[q]) many++;
        return many;
    }

    // ---- by hand

    int hand(int p, int v) {
        if (!period(p) || v < 0 || v > 999) return BAD;
        int was = hand[p];
        hand[p] = v;
        return was;
    }

    int handAs(int what) {
        if (what < 0 || what > 2) return BAD;
        int[] as = new int[16];
        if (what == 0) as = madeBy(plan());
        if (what == 1) {
            if (bounded(-1) < 0) return bounded(-1);
            for (int p = 0; p < n; p++) as[p] = bounded(p);
        }
        hand = as;
        return Arrays.stream(hand).sum();
    }

    int judged(int what) {
        if (what < 0 || what > 2) return FAR;
        int cost = 0;
        int wrong = NOT;
        for (int p = n - 1; p >= 0; p--) {
            int stock = stockBehind(hand, p);
            cost += behind(p, stock) + hand[p] * num[p][2] + (hand[p] == 0 ? 0 : num[p][1]);
            boolean right = hand[p] <= num[p][5] && stock <= store && (stock >= 0 || late == 1);
            if (!right || (p == n - 1 && stock != 0)) wrong = p;
        }
        return what == 0 ? cost : what == 1 ? wrong : stockBehind(hand, n - 1);
    }

    // ---- texts, rows

    int print(int i) {
        if (i < -1) return BAD;
        List<String> all = new ArrayList<>();
        for (Lot lot : plan().lots) all.add(lot.a + "-" + lot.b + "@" + lot.m + ":" + demanded(lot.a, lot.b));
        String text = String.join(",", all);
        return i == -1 ? text.length() : i < text.length() ? text.charAt(i) : NOT;
    }

    int row(int shelf, int size) {
        if (shelf < 0 || shelf > 3 || size > 20) return BAD;
        if (size < 0) return -14;
        shelves[shelf] = new long[size];
        return 1;
    }

    int put(int shelf, int i, long v) {
        if (shelf < 0 || shelf > 3) return BAD;
        if (shelves[shelf] == null) return -11;
        if (i < 0 || i >= shelves[shelf].length) return -13;
        shelves[shelf][i] = v;
        return 1;
    }

    long get(int shelf, int i) {
        boolean there = shelf >= 0 && shelf <= 3 && shelves[shelf] != null && i >= 0 && i < shelves[shelf].length;
        return there ? shelves[shelf][i] : Long.MIN_VALUE;
    }

    int from(int shelf, int i, int p) {
        if (shelf < 0 || shelf > 3 || !period(p)) return BAD;
        if (shelves[shelf] == null) return -11;
        if (i < 0) return -13;
        change();
        int came = 0;
        for (long at = i; at < shelves[shelf].length && p < n; at++, p++, came++) {
            long v = shelves[shelf][(int) at];
            if (v < 0 || v > 99) break;
            num[p][0] = (int) v;
        }
        return came;
    }

    int into(int shelf, int i, int what) {
        if (shelf < 0 || shelf > 3 || what < 0 || what > 2) return BAD;
        if (shelves[shelf] == null) return -11;
        if (i < 0) return -13;
        int laid = 0;
        for (long at = i; at < shelves[shelf].length && laid < n; at++, laid++) {
            shelves[shelf][(int) at] = what == 2 ? forward(laid + 1, 0) : by(laid, what);
        }
        return laid;
    }

    // ---- changes, the image

    int undo() {
        if (done.isEmpty()) return STATE;
        undone.addLast(snapshot());
        lay(done.removeLast());
        return done.size();
    }

    int redo() {
        if (undone.isEmpty()) return STATE;
        done.addLast(snapshot());
        lay(undone.removeLast());
        return undone.size();
    }

    int image() {
        image = snapshot();
        return n;
    }

    int back() {
        if (image == null) return STATE;
        lay(image);
        hand = image.hand.clone();
        n = image.n;
        done.clear();
        undone.clear();
        return n;
    }

    int count(int what) {
        int[] all = {n, demanded(0, n - 1), tape.length(), done.size(), undone.size(), store, late};
        return what >= 0 && what < all.length ? all[what] : BAD;
    }
}
