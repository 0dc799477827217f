import java.util.ArrayList;
import java.util.List;
import java.util.Random;

/** Long runs of calls, the same each time, answered by the program and by the reference; and the reference held against all plans. */
public final class ReferenceTest {
    private static final Due DUE = new Due("ReferenceTest");
    private static final String[] WORDS = {"demand", "setup", "making", "holding", "late", "room"};
    private static final int[] LIMIT = {99, 999, 99, 99, 99, 999};

    private final Random random;
    private final String name;
    private final LotPlanner x = new LotPlanner();
    private final Reference y = new Reference();
    private int calls = 0;
    // how great the numbers of this run may be: small ones make many plans alike
    private final int greatest;
    private final int periodsAtMost;

    private ReferenceTest(long seed, int periodsAtMost) {
        this.random = new Random(seed);
        this.name = "seed " + seed;
        this.greatest = new int[] {1, 2, 4, 12, 99, 999}[random.nextInt(6)];
        this.periodsAtMost = periodsAtMost;
    }

    public static void main(String[] args) {
        for (int seed = 0; seed < 400; seed++) new ReferenceTest(seed, 6).run();
        for (int seed = 1000; seed < 1120; seed++) new ReferenceTest(seed, 16).run();
        for (int seed = 0; seed < 300; seed++) allPlans(seed);
        for (int seed = 0; seed < 300; seed++) allBounded(seed);
        DUE.end();
    }

    private void due(String call, long got, long want) {
        calls++;
        DUE.due(name + ", call " + calls + ": " + call, got, want);
    }

    private int below(int n) {
        return random.nextInt(n);
    }

    private boolean oneIn(int n) {
        return random.nextInt(n) == 0;
    }

    private int period() {
        if (oneIn(25)) return new int[] {-1, -2, y.count(0), 16, Integer.MIN_VALUE, Integer.MAX_VALUE}[below(6)];
        return below(y.count(0));
    }

    private int what(int end) {
        return oneIn(20) ? new int[] {-1, end, Integer.MIN_VALUE, Integer.MAX_VALUE}[below(4)] : below(end);
    }

    private int value(int which) {
        int limit = which >= 0 && which < 6 ? LIMIT[which] : 999;
        if (oneIn(25)) return new int[] {-1, limit + 1, Integer.MIN_VALUE, Integer.MAX_VALUE}[below(4)];
        if (oneIn(15)) return limit;
        if (which == 0 && oneIn(3)) return 0;
        if (which == 1 && oneIn(3)) return below(limit + 1);
        if (which == 5 && oneIn(2)) return limit;
        return below(Math.min(greatest, limit) + 1);
    }

    private void run() {
        int n = 1 + below(periodsAtMost);
        due("periods(" + n + ")", x.periods(n), y.periods(n));
        if (oneIn(2)) due("let(1, 1)", x.let(1, 1), y.let(1, 1));
        for (int p = 0; p < n; p++) {
            tell(p, 0, value(0));
            if (oneIn(2)) tell(p, 1, value(1));
            tell(p, 2 + below(3), value(2));
        }
        while (calls < 500) {
            if (oneIn(2)) askPlan();
            else if (oneIn(4)) askThought();
            else if (oneIn(3)) changeOrGoBack();
            else if (oneIn(2)) handOrBounded();
            else textOrRow();
        }
    }

    private void tell(int p, int which, int v) {
        due("tell(" + p + ", " + which + ", " + v + ")", x.tell(p, which, v), y.tell(p, which, v));
    }

    private void askPlan() {
        int a = what(y.count(0) + 1);
        int b = what(y.count(0) + 1);
        int k = below(6) - 1;
        switch (below(9)) {
            case 0 -> due("least()", x.least(), y.least());
            case 1 -> {
                int w = what(5);
                if (oneIn(20)) k = -2;
                due("lot(" + k + ", " + w + ")", x.lot(k, w), y.lot(k, w));
            }
            case 2 -> {
                int p = period();
                int w = what(2);
                due("by(" + p + ", " + w + ")", x.by(p, w), y.by(p, w));
            }
            case 3, 4 -> {
                int w = what(3);
                due("forward(" + a + ", " + w + ")", x.forward(a, w), y.forward(a, w));
            }
            case 5 -> due("part(" + a + ", " + b + ")", x.part(a, b), y.part(a, b));
            case 6 -> due("ways()", x.ways(), y.ways());
            case 7 -> due("calm()", x.calm(), y.calm());
            default -> {
                int r = what(4);
                int n = oneIn(10) ? new int[] {0, -1, 17, 16}[below(4)] : 1 + below(6);
                int w = what(3);
                due("rule(" + r + ", " + n + ", " + w + ")", x.rule(r, n, w), y.rule(r, n, w));
                due("thumb()", x.thumb(), y.thumb());
            }
        }
    }

    private void askThought() {
        int p = period();
        if (oneIn(3)) due("more(" + p + ")", x.more(p), y.more(p));
        if (oneIn(8)) due("keeps(" + p + ")", x.keeps(p), y.keeps(p));
        int v = value(0);
        int w = what(3);
        due("touched(" + p + ", " + v + ", " + w + ")", x.touched(p, v, w), y.touched(p, v, w));
    }

    private void changeOrGoBack() {
        int kind = below(12);
        if (kind < 3) {
            int which = what(6);
            tell(period(), which, value(which));
        } else if (kind == 3) {
            int a = period();
            int b = period();
            int which = what(6);
            int v = value(which);
            due("tellAll(" + a + ", " + b + ", " + which + ", " + v + ")", x.tellAll(a, b, which, v), y.tellAll(a, b, which, v));
        } else if (kind == 4) {
            int w = what(2);
            int v = w == 1 && !oneIn(8) ? below(2) : value(5);
            due("let(" + w + ", " + v + ")", x.let(w, v), y.let(w, v));
        } else if (kind < 8) {
            due("undo()", x.undo(), y.undo());
        } else if (kind < 10) {
            due("redo()", x.redo(), y.redo());
        } else if (oneIn(3)) {
            int n = oneIn(4) ? new int[] {0, -1, 17, Integer.MAX_VALUE}[below(4)] : 1 + below(periodsAtMost);
            due("periods(" + n + ")", x.periods(n), y.periods(n));
        } else if (oneIn(2)) {
            due("image()", x.image(), y.image());
        } else {
            due("back()", x.back(), y.back());
        }
        int w = what(7);
        due("count(" + w + ")", x.count(w), y.count(w));
        int p = period();
        int which = what(6);
        due("of(" + p + ", " + which + ")", x.of(p, which), y.of(p, which));
    }

    private void handOrBounded() {
        int p = period();
        int w = what(3);
        switch (below(5)) {
            case 0 -> {
                int v = value(5);
                due("hand(" + p + ", " + v + ")", x.hand(p, v), y.hand(p, v));
            }
            case 1 -> due("handAs(" + w + ")", x.handAs(w), y.handAs(w));
            case 2 -> {
                int q = oneIn(3) ? -1 : oneIn(10) ? -2 : p;
                due("bounded(" + q + ")", x.bounded(q), y.bounded(q));
            }
            default -> due("judged(" + w + ")", x.judged(w), y.judged(w));
        }
    }

    private void textOrRow() {
        int shelf = what(4);
        int i = oneIn(10) ? new int[] {-1, 20, 19, Integer.MAX_VALUE, Integer.MIN_VALUE}[below(5)] : below(6);
        switch (below(9)) {
            case 0 -> {
                int k = oneIn(10) ? -2 : below(30) - 1;
                due("print(" + k + ")", x.print(k), y.print(k));
            }
            case 1 -> {
                int n = oneIn(6) ? new int[] {-1, 21, 20, 0, Integer.MIN_VALUE}[below(5)] : below(9);
                due("row(" + shelf + ", " + n + ")", x.row(shelf, n), y.row(shelf, n));
            }
            case 2, 3 -> {
                long v = oneIn(6) ? new long[] {100, -1, Long.MAX_VALUE, 1L << 32}[below(4)] : value(0);
                due("put(" + shelf + ", " + i + ", " + v + ")", x.put(shelf, i, v), y.put(shelf, i, v));
            }
            case 4 -> due("get(" + shelf + ", " + i + ")", x.get(shelf, i), y.get(shelf, i));
            case 5 -> {
                int p = period();
                due("from(" + shelf + ", " + i + ", " + p + ")", x.from(shelf, i, p), y.from(shelf, i, p));
            }
            case 6 -> {
                int w = what(3);
                due("into(" + shelf + ", " + i + ", " + w + ")", x.into(shelf, i, w), y.into(shelf, i, w));
                for (int k = 0; k < 6; k++) due("get(" + shelf + ", " + k + ")", x.get(shelf, k), y.get(shelf, k));
            }
            default -> readText();
        }
    }

    private void readText() {
        StringBuilder text = new StringBuilder();
        do {
            if (text.length() > 0) text.append(';');
            int which = below(6);
            String p = oneIn(4) ? "*" : String.valueOf(oneIn(10) ? below(18) : below(y.count(0)));
            if (oneIn(6)) p = "0" + p;
            int v = oneIn(12) ? LIMIT[which] + 1 : below(Math.min(greatest, LIMIT[which]) + 1);
            text.append(WORDS[which]).append(' ').append(p).append(' ').append(oneIn(8) ? "00" : "").append(v);
        } while (oneIn(2));
        if (oneIn(3)) {
            int at = below(text.length());
            switch (below(3)) {
                case 0 -> text.setLength(at);
                case 1 -> text.setCharAt(at, " ;*a0z9A".charAt(below(8)));
                default -> text.insert(at, " ;*a0z9A".charAt(below(8)));
            }
        }
        for (int i = 0; i < text.length(); i++) {
            int c = text.charAt(i);
            due("feed(" + c + ")", x.feed(c), y.feed(c));
        }
        due("read() of " + text, x.read(), y.read());
    }

    // ---- the reference itself, and the program, held against all plans there are

    private static void allPlans(int seed) {
        Random random = new Random(seed);
        LotPlanner x = new LotPlanner();
        Reference y = new Reference();
        int n = 1 + random.nextInt(6);
        x.periods(n);
        y.periods(n);
        int late = random.nextInt(2);
        x.let(1, late);
        y.let(1, late);
        for (int p = 0; p < n; p++) {
            int[] v = {random.nextInt(3), random.nextInt(5), random.nextInt(3), random.nextInt(2), random.nextInt(2)};
            for (int w = 0; w < 5; w++) {
                x.tell(p, w, v[w]);
                y.tell(p, w, v[w]);
            }
        }
        for (int t = 0; t <= n; t++) {
            List<List<Reference.Lot>> all = new ArrayList<>();
            addPlans(y, 0, t, List.of(), all);
            int least = Integer.MAX_VALUE;
            int many = 0;
            int last = -2;
            List<Reference.Lot> first = List.of();
            for (List<Reference.Lot> plan : all) {
                int cost = 0;
                for (Reference.Lot lot : plan) cost += y.costOf(lot);
                int begin = plan.isEmpty() ? -2 : plan.get(plan.size() - 1).a();
                if (cost < least) {
                    least = cost;
                    many = 0;
                    last = -2;
                    first = plan;
                }
                if (cost == least) {
                    many++;
                    last = Math.max(last, begin);
                }
            }
            String name = "all plans, seed " + seed + ", t " + t + ": ";
            DUE.due(name + "cost", x.forward(t, 0), least);
            DUE.due(name + "part", x.part(0, t), least);
            DUE.due(name + "last", x.forward(t, 1), last);
            DUE.due(name + "cost of the reference", y.forward(t, 0), least);
            if (t < n) continue;
            DUE.due(name + "ways", x.ways(), many);
            DUE.due(name + "lots", x.lot(-1, 0), first.size());
            for (int k = 0; k < first.size(); k++) {
                DUE.due(name + "a", x.lot(k, 0), first.get(k).a());
                DUE.due(name + "b", x.lot(k, 1), first.get(k).b());
                DUE.due(name + "m", x.lot(k, 2), first.get(k).m());
            }
        }
    }

    /** All plans, in the order in which they come first among equals. */
    private static void addPlans(Reference y, int a, int t, List<Reference.Lot> begun, List<List<Reference.Lot>> all) {
        List<Reference.Lot> next = y.firstLots(a, t);
        if (next.isEmpty()) all.add(begun);
        for (Reference.Lot lot : next) {
            List<Reference.Lot> longer = new ArrayList<>(begun);
            longer.add(lot);
            addPlans(y, lot.b() + 1, t, longer, all);
        }
    }

    private static void allBounded(int seed) {
        Random random = new Random(seed);
        LotPlanner x = new LotPlanner();
        int n = 1 + random.nextInt(4);
        x.periods(n);
        int late = random.nextInt(2);
        int store = random.nextInt(5);
        x.let(1, late);
        x.let(0, store);
        int[][] v = new int[n][];
        int pieces = 0;
        for (int p = 0; p < n; p++) {
            v[p] = new int[] {random.nextInt(4), random.nextInt(6), random.nextInt(3), random.nextInt(3), random.nextInt(3), random.nextInt(6)};
            pieces += v[p][0];
            for (int w = 0; w < 6; w++) x.tell(p, w, v[p][w]);
        }
        int least = Integer.MAX_VALUE;
        int[] first = null;
        int ways = (int) Math.pow(pieces + 1, n);
        for (int i = 0; i < ways; i++) {
            int[] made = new int[n];
            int rest = i;
            for (int p = n - 1; p >= 0; p--) {
                made[p] = rest % (pieces + 1);
                rest /= pieces + 1;
            }
            int cost = costOfMade(v, made, late, store);
            if (cost >= 0 && cost < least) {
                least = cost;
                first = made;
            }
        }
        String name = "all bounded, seed " + seed + ": ";
        DUE.due(name + "cost", x.bounded(-1), first == null ? -2 : least);
        for (int p = 0; p < n; p++) DUE.due(name + "made in " + p, x.bounded(p), first == null ? -2 : first[p]);
        if (first == null) return;
        DUE.due(name + "handAs", x.handAs(1), pieces);
        DUE.due(name + "wrong", x.judged(1), -2);
        DUE.due(name + "judged", x.judged(0), least);
    }

    /** -1: it may not be. */
    private static int costOfMade(int[][] v, int[] made, int late, int store) {
        int cost = 0;
        int stock = 0;
        for (int p = 0; p < v.length; p++) {
            if (made[p] > v[p][5]) return -1;
            if (made[p] > 0) cost += v[p][1] + v[p][2] * made[p];
            stock += made[p] - v[p][0];
            if (stock > store || (stock < 0 && late == 0)) return -1;
            cost += stock > 0 ? stock * v[p][3] : -stock * v[p][4];
        }
        return stock == 0 ? cost : -1;
    }
}
