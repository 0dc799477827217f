/** Plans lots: when to set up, and how much to make ahead. ../shared/DOC.md says what each call promises. */
public final class LotPlanner {
    public static final int BAD = -1, NOT = -2, FULL = -3, STATE = -5, LONG = -7;

    private static final int NOTHING = -11, PLACE = -13, SIZE = -14;
    // BAD, where -1 may be a true answer
    private static final int FAR_BAD = -10000;
    private static final long NO_PLACE = 1L << 63;

    private static final int DEMAND = 0, SETUP = 1, MAKING = 2, HOLDING = 3, LATE = 4, ROOM = 5, KINDS = 6;
    private static final int MOST_PERIODS = 16, FIRST_PERIODS = 8;
    private static final int[] AT_FIRST = {0, 50, 1, 1, 5, 999};
    private static final int[] AT_MOST = {99, 999, 99, 99, 99, 999};
    private static final int MOST_STORE = 999, MOST_BY_HAND = 999;
    private static final int STORE_CELL = KINDS * MOST_PERIODS, LATE_CELL = STORE_CELL + 1, CELLS = LATE_CELL + 1;

    // above every cost, and far enough below the end of int to be added to
    private static final int NONE = 1000000000;
    private static final int MOST_WAYS = 9999;
    private static final int MOST_BOUNDED = 120;
    private static final int EACH = 0, EVERY = 1, MEAN = 2, PARTS = 3;
    // so often 0 .. 999 can be halved until one number is left
    private static final int HALVINGS = 10;

    private static final int MOST_TAPE = 120, ALL = -1;
    private static final int SHELF_COUNT = 4, MOST_ROW = 20;
    private static final int MOST_CHANGES = 12;

    private final Numbers numbers = new Numbers();
    private final Plan plan = new Plan();
    private final Bounded bounded = new Bounded();
    private final ByRule byRule = new ByRule();
    private final ByHand byHand = new ByHand();
    private final Changes changes = new Changes();
    private final Text text = new Text();
    private final Printed printed = new Printed();
    private final Shelves shelves = new Shelves();

    // numbers as they would be, and the plan by them
    private final Numbers thought = new Numbers();
    private final Plan planThought = new Plan();

    private final Numbers imageNumbers = new Numbers();
    private final ByHand imageByHand = new ByHand();
    private boolean imageThere = false;

    public LotPlanner() {
    }

    // ---- periods

    public int periods(int n) {
        if (n < 1 || n > MOST_PERIODS) return BAD;
        int was = numbers.size();
        if (n == was) return was;
        numbers.resize(n);
        byHand.keepFirst(Math.min(was, n));
        changes.begin();
        return was;
    }

    public int tell(int period, int which, int v) {
        if (!numbers.has(period) || !mayBe(which, v)) return BAD;
        changes.note(numbers);
        int was = numbers.value(period, which);
        numbers.become(period, which, v);
        return was;
    }

    public int tellAll(int first, int last, int which, int v) {
        if (!numbers.has(first) || !numbers.has(last) || first > last || !mayBe(which, v)) return BAD;
        changes.note(numbers);
        for (int p = first; p <= last; p++) numbers.become(p, which, v);
        return last - first + 1;
    }

    public int let(int what, int v) {
        if (what < 0 || what > 1 || v < 0 || v > (what == 0 ? MOST_STORE : 1)) return BAD;
        changes.note(numbers);
        int was = what == 0 ? numbers.store() : numbers.lateMayBe();
        if (what == 0) numbers.storeBecomes(v);
        else numbers.lateMayBeBecomes(v);
        return was;
    }

    public int of(int period, int which) {
        if (!numbers.has(period) || !inside(which, KINDS)) return BAD;
        return numbers.value(period, which);
    }

    public int feed(int letter) {
        if (letter < 32 || letter > 126) return BAD;
        return text.take((char) letter) ? text.length() : FULL;
    }

    public int read() {
        thought.becomeLike(numbers);
        int clauses = text.tellTo(thought);
        text.clear();
        if (clauses < 0) return clauses;
        changes.note(numbers);
        numbers.becomeLike(thought);
        return clauses;
    }

    // ---- the plan

    public int least() {
        return planNow().cost();
    }

    public int lot(int k, int what) {
        if (k < -1) return BAD;
        if (k == -1) return planNow().lots();
        if (what < 0 || what > 4) return BAD;
        Plan now = planNow();
        return k < now.lots() ? now.ofLot(k, what) : NOT;
    }

    public int by(int period, int what) {
        if (!numbers.has(period) || what < 0 || what > 1) return FAR_BAD;
        return what == 0 ? planNow().made(period) : planNow().stock(period);
    }

    public int forward(int t, int what) {
        if (!inside(t, numbers.size() + 1) || what < 0 || what > 2) return BAD;
        if (what == 0) return planNow().forwardCost(t);
        int last = planNow().lastBegin(t);
        if (what == 1) return last < 0 ? NOT : last;
        boolean firm = last >= 0 && numbers.areCalm() && numbers.pieces(last + 1, t - 1) == 0;
        return firm ? last : 0;
    }

    public int calm() {
        return numbers.areCalm() ? 1 : 0;
    }

    public int part(int a, int n) {
        int end = numbers.size() + 1;
        if (!inside(a, end) || !inside(n, end) || a > n) return BAD;
        return planNow().partCost(a, n);
    }

    public int ways() {
        return planNow().howMany();
    }

    // ---- bounded, rules

    public int bounded(int period) {
        if (period < -1 || period >= numbers.size()) return BAD;
        bounded.refresh(numbers);
        if (bounded.state() != 0) return bounded.state();
        return period == -1 ? bounded.cost() : bounded.made(period);
    }

    public int rule(int rule, int n, int what) {
        if (rule < EACH || rule > PARTS || what < 0 || what > 2) return BAD;
        if (rule == EVERY && (n < 1 || n > MOST_PERIODS)) return BAD;
        byRule.reckon(numbers, rule, n);
        if (what == 0) return byRule.cost();
        return what == 1 ? byRule.lots() : byRule.begins();
    }

    public int thumb() {
        int best = EACH;
        int cost = NONE;
        for (int rule = EACH; rule <= PARTS; rule++) {
            int variants = rule == EVERY ? MOST_PERIODS : 1;
            for (int n = 1; n <= variants; n++) {
                byRule.reckon(numbers, rule, n);
                if (byRule.cost() < cost) {
                    cost = byRule.cost();
                    best = 100 * rule + (rule == EVERY ? n : 0);
                }
            }
        }
        return best;
    }

    // ---- in thought

    public int more(int period) {
        if (!numbers.has(period)) return FAR_BAD;
        int demand = numbers.value(period, DEMAND);
        if (demand >= AT_MOST[DEMAND]) return FAR_BAD;
        return planWith(period, DEMAND, demand + 1).cost() - planNow().cost();
    }

    public int keeps(int period) {
        if (!numbers.has(period)) return BAD;
        if (planNow().made(period) == 0) return NOT;
        // a greater setup makes only the plans dearer that make in the period: so halving finds the end
        int low = numbers.value(period, SETUP);
        int high = AT_MOST[SETUP];
        for (int step = 0; step < HALVINGS && low < high; step++) {
            int middle = (low + high + 1) / 2;
            if (planWith(period, SETUP, middle).made(period) > 0) low = middle;
            else high = middle - 1;
        }
        return low;
    }

    public int touched(int period, int v, int what) {
        if (!numbers.has(period) || !mayBe(DEMAND, v) || what < 0 || what > 2) return FAR_BAD;
        Plan now = planNow();
        Plan then = planWith(period, DEMAND, v);
        if (what == 2) return then.cost() - now.cost();
        int many = 0;
        int first = NOT;
        for (int p = numbers.size() - 1; p >= 0; p--) {
            if (then.made(p) != now.made(p)) {
                many++;
                first = p;
            }
        }
        return what == 0 ? many : first;
    }

    // ---- by hand

    public int hand(int period, int v) {
        if (!numbers.has(period) || v < 0 || v > MOST_BY_HAND) return BAD;
        int was = byHand.made(period);
        byHand.make(period, v);
        return was;
    }

    public int handAs(int what) {
        if (what < 0 || what > 2) return BAD;
        if (what == 1) {
            bounded.refresh(numbers);
            if (bounded.state() != 0) return bounded.state();
        }
        Plan now = planNow();
        for (int p = 0; p < numbers.size(); p++) {
            byHand.make(p, what == 0 ? now.made(p) : what == 1 ? bounded.made(p) : 0);
        }
        return byHand.pieces();
    }

    public int judged(int what) {
        if (what < 0 || what > 2) return FAR_BAD;
        if (what == 0) return byHand.cost(numbers);
        return what == 1 ? byHand.wrong(numbers) : byHand.stockBehind(numbers);
    }

    // ---- texts, rows

    public int print(int i) {
        if (i < -1) return BAD;
        printed.write(planNow());
        if (i == -1) return printed.length();
        return i < printed.length() ? printed.sign(i) : NOT;
    }

    public int row(int shelf, int n) {
        if (!inside(shelf, SHELF_COUNT) || n > MOST_ROW) return BAD;
        if (n < 0) return SIZE;
        shelves.begin(shelf, n);
        return 1;
    }

    public int put(int shelf, int i, long v) {
        if (!inside(shelf, SHELF_COUNT)) return BAD;
        if (!shelves.holds(shelf)) return NOTHING;
        if (!shelves.hasPlace(shelf, i)) return PLACE;
        shelves.store(shelf, i, v);
        return 1;
    }

    public long get(int shelf, int i) {
        if (!inside(shelf, SHELF_COUNT) || !shelves.hasPlace(shelf, i)) return NO_PLACE;
        return shelves.value(shelf, i);
    }

    public int from(int shelf, int i, int period) {
        if (!inside(shelf, SHELF_COUNT) || !numbers.has(period)) return BAD;
        if (!shelves.holds(shelf)) return NOTHING;
        if (i < 0) return PLACE;
        changes.note(numbers);
        int came = 0;
        while (period + came < numbers.size() && shelves.hasPlace(shelf, i) && shelves.hasPlace(shelf, i + came)) {
            long v = shelves.value(shelf, i + came);
            if (v < 0 || v > AT_MOST[DEMAND]) break;
            numbers.become(period + came, DEMAND, (int) v);
            came++;
        }
        return came;
    }

    public int into(int shelf, int i, int what) {
        if (!inside(shelf, SHELF_COUNT) || what < 0 || what > 2) return BAD;
        if (!shelves.holds(shelf)) return NOTHING;
        if (i < 0) return PLACE;
        Plan now = planNow();
        int laid = 0;
        while (laid < numbers.size() && shelves.hasPlace(shelf, i) && shelves.hasPlace(shelf, i + laid)) {
            int v = what == 0 ? now.made(laid) : what == 1 ? now.stock(laid) : now.forwardCost(laid + 1);
            shelves.store(shelf, i + laid, v);
            laid++;
        }
        return laid;
    }

    // ---- changes, the image

    public int undo() {
        return changes.goBack(numbers) ? changes.behind() : STATE;
    }

    public int redo() {
        return changes.goOn(numbers) ? changes.ahead() : STATE;
    }

    public int image() {
        imageNumbers.becomeLike(numbers);
        imageByHand.becomeLike(byHand);
        imageThere = true;
        return numbers.size();
    }

    public int back() {
        if (!imageThere) return STATE;
        numbers.becomeLike(imageNumbers);
        byHand.becomeLike(imageByHand);
        changes.begin();
        return numbers.size();
    }

    public int count(int what) {
        switch (what) {
            case 0: return numbers.size();
            case 1: return numbers.pieces(0, numbers.size() - 1);
            case 2: return text.length();
            case 3: return changes.behind();
            case 4: return changes.ahead();
            case 5: return numbers.store();
            case 6: return numbers.lateMayBe();
            default: return BAD;
        }
    }

    private Plan planNow() {
        plan.refresh(numbers);
        return plan;
    }

    private Plan planWith(int period, int which, int v) {
        thought.becomeLike(numbers);
        thought.become(period, which, v);
        planThought.refresh(thought);
        return planThought;
    }

    private static boolean mayBe(int which, int v) {
        return inside(which, KINDS) && v >= 0 && v <= at(AT_MOST, which);
    }

    private static boolean inside(int i, int end) {
        return i >= 0 && i < end;
    }

    private static int at(int[] row, int i) {
        return i >= 0 && i < row.length ? row[i] : 0;
    }

    private static void lay(int[] row, int i, int v) {
        if (i >= 0 && i < row.length) row[i] = v;
    }

    /** What is told of the periods, of the store, and whether late may be; periods from size on are as at first. */
    static final class Numbers {
        private final int[] cells = new int[CELLS];
        private int size = FIRST_PERIODS;
        // grows with all that is told, so that what was reckoned by the numbers can be known to be stale
        private int stamp = 1;

        Numbers() {
            for (int p = 0; p < MOST_PERIODS; p++) beAsAtFirst(p);
            cells[STORE_CELL] = MOST_STORE;
        }

        private void beAsAtFirst(int period) {
            for (int which = 0; which < KINDS; which++) lay(cells, which * MOST_PERIODS + period, at(AT_FIRST, which));
        }

        int size() {
            return size;
        }

        int stamp() {
            return stamp;
        }

        boolean has(int period) {
            return period >= 0 && period < size;
        }

        int value(int period, int which) {
            if (period < 0 || period >= size || which < 0 || which >= KINDS) return 0;
            int i = which * MOST_PERIODS + period;
            return i < cells.length ? cells[i] : 0;
        }

        void become(int period, int which, int v) {
            if (has(period) && inside(which, KINDS)) lay(cells, which * MOST_PERIODS + period, v);
            stamp++;
        }

        int store() {
            return at(cells, STORE_CELL);
        }

        void storeBecomes(int v) {
            lay(cells, STORE_CELL, v);
            stamp++;
        }

        int lateMayBe() {
            return at(cells, LATE_CELL);
        }

        void lateMayBeBecomes(int v) {
            lay(cells, LATE_CELL, v);
            stamp++;
        }

        void resize(int n) {
            for (int p = Math.min(size, n); p < MOST_PERIODS; p++) beAsAtFirst(p);
            size = n;
            stamp++;
        }

        void becomeLike(Numbers other) {
            for (int i = 0; i < CELLS; i++) lay(cells, i, at(other.cells, i));
            size = other.size;
            stamp++;
        }

        void copyTo(int[] rows, int place) {
            for (int i = 0; i < CELLS; i++) lay(rows, place + i, at(cells, i));
        }

        void copyFrom(int[] rows, int place) {
            for (int i = 0; i < CELLS; i++) lay(cells, i, at(rows, place + i));
            stamp++;
        }

        /** What the periods a .. b demand, together. */
        int pieces(int a, int b) {
            int pieces = 0;
            for (int p = a; p <= b && p < size; p++) pieces += value(p, DEMAND);
            return pieces;
        }

        /** What it costs that so many pieces are there (or owed, below 0) behind a period. */
        int stockCost(int period, int stock) {
            return stock > 0 ? stock * value(period, HOLDING) : -stock * value(period, LATE);
        }

        boolean areCalm() {
            if (lateMayBe() != 0) return false;
            for (int p = 1; p < size; p++) {
                if (value(p, MAKING) > value(p - 1, MAKING) + value(p - 1, HOLDING)) return false;
            }
            return true;
        }
    }

    /** All lots a .. b: the least cost of each, the first period to make it in for that, and how many such there are. */
    static final class Lots {
        private final int[] costs = new int[MOST_PERIODS * MOST_PERIODS];
        private final int[] makers = new int[MOST_PERIODS * MOST_PERIODS];
        private final int[] sames = new int[MOST_PERIODS * MOST_PERIODS];
        // demanded ahead of each period
        private final int[] ahead = new int[MOST_PERIODS + 1];

        void reckon(Numbers numbers) {
            int size = numbers.size();
            for (int p = 0; p < size; p++) lay(ahead, p + 1, at(ahead, p) + numbers.value(p, DEMAND));
            for (int i = 0; i < costs.length; i++) costs[i] = NONE;
            for (int a = 0; a < size; a++) {
                int owed = 0;
                for (int m = a; m < size && (numbers.lateMayBe() != 0 || pieces(a, m - 1) == 0); m++) {
                    reckonMadeIn(numbers, a, m, owed);
                    owed += numbers.value(m, LATE) * pieces(a, m);
                }
            }
        }

        private void reckonMadeIn(Numbers numbers, int a, int m, int owed) {
            int setup = numbers.value(m, SETUP);
            int making = numbers.value(m, MAKING);
            int held = 0;
            // what it costs to keep one piece from m to b
            int keeping = 0;
            for (int b = m; b < numbers.size(); b++) {
                held += keeping * numbers.value(b, DEMAND);
                keeping += numbers.value(b, HOLDING);
                int pieces = pieces(a, b);
                if (pieces > 0) offer(a * MOST_PERIODS + b, m, setup + making * pieces + held + owed);
            }
        }

        private void offer(int i, int m, int cost) {
            int least = at(costs, i);
            if (cost < least) {
                lay(costs, i, cost);
                lay(makers, i, m);
                lay(sames, i, 1);
            } else if (cost == least) {
                lay(sames, i, at(sames, i) + 1);
            }
        }

        int pieces(int a, int b) {
            return at(ahead, b + 1) - at(ahead, a);
        }

        /** NONE: a .. b is no lot. */
        int costOf(int a, int b) {
            return at(costs, a * MOST_PERIODS + b);
        }

        int makerOf(int a, int b) {
            return at(makers, a * MOST_PERIODS + b);
        }

        int waysOf(int a, int b) {
            return at(sames, a * MOST_PERIODS + b);
        }
    }

    /** The least plan of all periods, and the least costs of some of them. */
    static final class Plan {
        private final Lots lots = new Lots();
        private int known = 0;

        // of the least plan from each period to the end of a part: cost, last period of its first lot, how many cost that
        private final int[] behind = new int[MOST_PERIODS + 1];
        private final int[] ends = new int[MOST_PERIODS + 1];
        private final int[] many = new int[MOST_PERIODS + 1];

        // of each length
        private final int[] forwards = new int[MOST_PERIODS + 1];
        private final int[] lasts = new int[MOST_PERIODS + 1];

        private final int[] lotFirst = new int[MOST_PERIODS];
        private final int[] lotLast = new int[MOST_PERIODS];
        private final int[] made = new int[MOST_PERIODS];
        private final int[] stock = new int[MOST_PERIODS];
        private int lotCount = 0;
        private int cost = 0;
        private int ways = 1;

        /** The numbers are always the same object: by its stamp the plan knows whether it is still theirs. */
        void refresh(Numbers numbers) {
            if (known == numbers.stamp()) return;
            known = numbers.stamp();
            lots.reckon(numbers);
            cost = partCost(0, numbers.size());
            ways = at(many, 0);
            takeLots(numbers);
            for (int t = 0; t <= numbers.size(); t++) reckonForward(t);
        }

        /** The least cost of periods a .. n - 1, from behind, as the first lot decides first among equals. */
        int partCost(int a, int n) {
            for (int i = n; i >= a; i--) reckonPart(i, n);
            return at(behind, a);
        }

        private void reckonPart(int a, int n) {
            boolean wanted = lots.pieces(a, n - 1) > 0;
            int least = wanted ? NONE : 0;
            int end = n - 1;
            int same = wanted ? 0 : 1;
            for (int b = a; wanted && b < n; b++) {
                int lotCost = lots.costOf(a, b);
                if (lotCost >= NONE) continue;
                int all = lotCost + at(behind, b + 1);
                if (all < least) {
                    least = all;
                    end = b;
                    same = 0;
                }
                if (all == least) same = Math.min(MOST_WAYS, same + lots.waysOf(a, b) * at(many, b + 1));
            }
            lay(behind, a, least);
            lay(ends, a, end);
            lay(many, a, same);
        }

        private void takeLots(Numbers numbers) {
            int size = numbers.size();
            for (int p = 0; p < made.length; p++) made[p] = 0;
            lotCount = 0;
            int a = 0;
            while (a < size && lotCount < MOST_PERIODS && lots.pieces(a, size - 1) > 0) {
                int b = Math.max(a, at(ends, a));
                lay(lotFirst, lotCount, a);
                lay(lotLast, lotCount, b);
                lay(made, lots.makerOf(a, b), lots.pieces(a, b));
                lotCount++;
                a = b + 1;
            }
            int there = 0;
            for (int p = 0; p < size; p++) {
                there += at(made, p) - numbers.value(p, DEMAND);
                lay(stock, p, there);
            }
        }

        // A lot over periods without demand behind it costs the same: so each last lot may end with t - 1,
        // and the plan ahead of it right before its first period, if it has a lot at all.
        private void reckonForward(int t) {
            boolean wanted = lots.pieces(0, t - 1) > 0;
            int least = wanted ? NONE : 0;
            int last = -1;
            for (int a = 0; wanted && a < t; a++) {
                int lotCost = lots.costOf(a, t - 1);
                if (lotCost >= NONE || (a > 0 && lots.pieces(0, a - 1) == 0)) continue;
                int all = at(forwards, a) + lotCost;
                if (all <= least) {
                    least = all;
                    last = a;
                }
            }
            lay(forwards, t, least);
            lay(lasts, t, last);
        }

        int cost() {
            return cost;
        }

        int howMany() {
            return ways;
        }

        int lots() {
            return lotCount;
        }

        /** Of the k-th lot: first period (0), last (1), where it is made (2), pieces (3), cost (4). */
        int ofLot(int k, int what) {
            int a = at(lotFirst, k);
            int b = at(lotLast, k);
            switch (what) {
                case 0: return a;
                case 1: return b;
                case 2: return lots.makerOf(a, b);
                case 3: return lots.pieces(a, b);
                default: return lots.costOf(a, b);
            }
        }

        int made(int period) {
            return at(made, period);
        }

        int stock(int period) {
            return at(stock, period);
        }

        int forwardCost(int t) {
            return at(forwards, t);
        }

        /** Below 0: there is no lot. */
        int lastBegin(int t) {
            return at(lasts, t);
        }
    }

    /** The least of what may be made with the rooms of the periods and of the store. */
    static final class Bounded {
        private static final int WIDTH = MOST_BOUNDED + 1;

        private int known = 0;
        // least[p * WIDTH + c]: cost from period p on, if c pieces are made ahead of it
        private final int[] least = new int[(MOST_PERIODS + 1) * WIDTH];
        // of one period: cost behind what is made in it, if c pieces are made up to it
        private final int[] after = new int[WIDTH];
        private final int[] made = new int[MOST_PERIODS];
        private int total = 0;
        private int state = 0;

        void refresh(Numbers numbers) {
            if (known == numbers.stamp()) return;
            known = numbers.stamp();
            int size = numbers.size();
            total = numbers.pieces(0, size - 1);
            state = LONG;
            if (total > MOST_BOUNDED) return;
            for (int c = 0; c <= total; c++) lay(least, size * WIDTH + c, c == total ? 0 : NONE);
            for (int p = size - 1; p >= 0; p--) {
                reckonAfter(numbers, p);
                for (int c = 0; c <= total; c++) lay(least, p * WIDTH + c, leastFrom(numbers, p, c));
            }
            state = cost() < NONE ? 0 : NOT;
            if (state == 0) takeMade(numbers);
        }

        private void reckonAfter(Numbers numbers, int p) {
            int demanded = numbers.pieces(0, p);
            for (int c = 0; c <= total; c++) {
                int stock = c - demanded;
                int then = at(least, (p + 1) * WIDTH + c);
                boolean mayBe = stock <= numbers.store() && (stock >= 0 || numbers.lateMayBe() != 0);
                lay(after, c, mayBe && then < NONE ? then + numbers.stockCost(p, stock) : NONE);
            }
        }

        private int mostBehind(Numbers numbers, int p, int c) {
            return Math.min(total, c + numbers.value(p, ROOM));
        }

        private int leastFrom(Numbers numbers, int p, int c) {
            int best = at(after, c);
            int setup = numbers.value(p, SETUP);
            int making = numbers.value(p, MAKING);
            int end = Math.min(mostBehind(numbers, p, c), after.length - 1);
            for (int to = Math.max(0, c) + 1; to <= end; to++) {
                int cost = after[to] + setup + making * (to - c);
                if (cost < best) best = cost;
            }
            return best;
        }

        private void takeMade(Numbers numbers) {
            int c = 0;
            for (int p = 0; p < numbers.size(); p++) {
                reckonAfter(numbers, p);
                int to = firstOfLeast(numbers, p, c);
                lay(made, p, to - c);
                c = to;
            }
        }

        private int firstOfLeast(Numbers numbers, int p, int c) {
            int best = at(least, p * WIDTH + c);
            if (at(after, c) == best) return c;
            int setup = numbers.value(p, SETUP);
            int making = numbers.value(p, MAKING);
            int end = mostBehind(numbers, p, c);
            for (int to = c + 1; to < end; to++) {
                if (at(after, to) + setup + making * (to - c) == best) return to;
            }
            return end;
        }

        /** 0, LONG or NOT. */
        int state() {
            return state;
        }

        int cost() {
            return at(least, 0);
        }

        int made(int period) {
            return at(made, period);
        }
    }

    /** Lots by a rule of thumb. */
    static final class ByRule {
        private int cost = 0;
        private int lots = 0;
        private int begins = 0;

        void reckon(Numbers numbers, int rule, int n) {
            cost = 0;
            lots = 0;
            begins = 0;
            int a = demandFrom(numbers, 0);
            for (int k = 0; k < MOST_PERIODS && a < numbers.size(); k++) {
                int b = Math.max(a, endOf(numbers, a, rule, n));
                cost += numbers.value(a, SETUP) + numbers.value(a, MAKING) * numbers.pieces(a, b) + held(numbers, a, b);
                lots++;
                begins |= 1 << a;
                a = demandFrom(numbers, b + 1);
            }
        }

        /** The first period from p on that has demand; their number, if there is none. */
        private int demandFrom(Numbers numbers, int p) {
            int first = p;
            while (first < numbers.size() && numbers.value(first, DEMAND) == 0) first++;
            return first;
        }

        private int endOf(Numbers numbers, int a, int rule, int n) {
            switch (rule) {
                case EACH: return demandFrom(numbers, a + 1) - 1;
                case EVERY: return Math.min(a + n, numbers.size()) - 1;
                case MEAN: return endByMean(numbers, a);
                default: return endByParts(numbers, a);
            }
        }

        private int endByMean(Numbers numbers, int a) {
            int b = a;
            while (b + 1 < numbers.size() && !meanGrows(numbers, a, b)) b++;
            return b;
        }

        private boolean meanGrows(Numbers numbers, int a, int b) {
            int setup = numbers.value(a, SETUP);
            int size = b - a + 1;
            return (setup + held(numbers, a, b + 1)) * size > (setup + held(numbers, a, b)) * (size + 1);
        }

        private int endByParts(Numbers numbers, int a) {
            int b = a;
            while (b + 1 < numbers.size() && held(numbers, a, b + 1) <= numbers.value(a, SETUP)) b++;
            return b;
        }

        /** What holding costs, if all that a .. b demand is made in a. */
        private int held(Numbers numbers, int a, int b) {
            int held = 0;
            int keeping = 0;
            for (int p = a; p <= b; p++) {
                held += keeping * numbers.value(p, DEMAND);
                keeping += numbers.value(p, HOLDING);
            }
            return held;
        }

        int cost() {
            return cost;
        }

        int lots() {
            return lots;
        }

        int begins() {
            return begins;
        }
    }

    /** What is made by hand; nothing from the number of periods on. */
    static final class ByHand {
        private final int[] made = new int[MOST_PERIODS];

        int made(int period) {
            return at(made, period);
        }

        void make(int period, int v) {
            lay(made, period, v);
        }

        void keepFirst(int n) {
            for (int p = Math.max(0, n); p < made.length; p++) made[p] = 0;
        }

        void becomeLike(ByHand other) {
            for (int p = 0; p < made.length; p++) made[p] = at(other.made, p);
        }

        int pieces() {
            int pieces = 0;
            for (int p = 0; p < made.length; p++) pieces += made[p];
            return pieces;
        }

        int cost(Numbers numbers) {
            int cost = 0;
            int stock = 0;
            for (int p = 0; p < numbers.size(); p++) {
                int pieces = at(made, p);
                stock += pieces - numbers.value(p, DEMAND);
                if (pieces > 0) cost += numbers.value(p, SETUP) + pieces * numbers.value(p, MAKING);
                cost += numbers.stockCost(p, stock);
            }
            return cost;
        }

        int wrong(Numbers numbers) {
            int stock = 0;
            for (int p = 0; p < numbers.size(); p++) {
                stock += at(made, p) - numbers.value(p, DEMAND);
                if (at(made, p) > numbers.value(p, ROOM) || stock > numbers.store()) return p;
                if (stock < 0 && numbers.lateMayBe() == 0) return p;
                if (stock != 0 && p == numbers.size() - 1) return p;
            }
            return NOT;
        }

        int stockBehind(Numbers numbers) {
            return pieces() - numbers.pieces(0, numbers.size() - 1);
        }
    }

    /** The tape, and the text on it. */
    static final class Text {
        private final char[] signs = new char[MOST_TAPE];
        private int length = 0;
        // where the text is looked at, and the clause that was looked at last
        private int place = 0;
        private int which = 0;
        private int period = 0;
        private int number = 0;

        int length() {
            return length;
        }

        boolean take(char sign) {
            if (!inside(length, signs.length)) return false;
            signs[length] = sign;
            length++;
            return true;
        }

        void clear() {
            length = 0;
        }

        /** How many clauses were told; -100 less the fault, and then not all of them were. */
        int tellTo(Numbers numbers) {
            place = 0;
            int clauses = 0;
            while (clauses < MOST_TAPE && lookAtClause(numbers)) {
                tellClause(numbers);
                clauses++;
                if (place == length) return clauses;
                if (signAt(place) != ';') break;
                place++;
            }
            return -100 - place;
        }

        private void tellClause(Numbers numbers) {
            int first = period == ALL ? 0 : period;
            int last = period == ALL ? numbers.size() - 1 : period;
            for (int p = first; p <= last; p++) numbers.become(p, which, number);
        }

        /** False: there is a fault, at place. */
        private boolean lookAtClause(Numbers numbers) {
            return lookAtWord() && lookAtBlank() && lookAtPeriod(numbers) && lookAtBlank() && lookAtNumber();
        }

        private boolean lookAtWord() {
            int first = place;
            while (place < length && signAt(place) >= 'a' && signAt(place) <= 'z') place++;
            for (int w = 0; w < KINDS; w++) {
                if (!stands(wordOf(w), first, place)) continue;
                which = w;
                return true;
            }
            place = first;
            return false;
        }

        private boolean stands(String word, int first, int end) {
            if (word.length() != end - first) return false;
            for (int i = 0; i < word.length(); i++) {
                if (signAt(first + i) != word.charAt(i)) return false;
            }
            return true;
        }

        private String wordOf(int which) {
            switch (which) {
                case DEMAND: return "demand";
                case SETUP: return "setup";
                case MAKING: return "making";
                case HOLDING: return "holding";
                case LATE: return "late";
                default: return "room";
            }
        }

        private boolean lookAtBlank() {
            if (signAt(place) != ' ') return false;
            place++;
            return true;
        }

        private boolean lookAtPeriod(Numbers numbers) {
            if (signAt(place) == '*') {
                period = ALL;
                place++;
                return true;
            }
            int first = place;
            period = figures(2);
            if (numbers.has(period)) return true;
            place = first;
            return false;
        }

        private boolean lookAtNumber() {
            int first = place;
            number = figures(3);
            if (mayBe(which, number)) return true;
            place = first;
            return false;
        }

        /** The number of as many figures as there are, up to most of them; -1: there is none. */
        private int figures(int most) {
            int first = place;
            int v = 0;
            while (place - first < most && signAt(place) >= '0' && signAt(place) <= '9') {
                v = 10 * v + (signAt(place) - '0');
                place++;
            }
            return place > first ? v : -1;
        }

        /** Behind the text: no sign of any. */
        private int signAt(int i) {
            return inside(i, length) && i < signs.length ? signs[i] : -1;
        }
    }

    /** A plan as a text. */
    static final class Printed {
        private final char[] signs = new char[MOST_PERIODS * MOST_PERIODS];
        private int length = 0;

        void write(Plan plan) {
            length = 0;
            for (int k = 0; k < plan.lots(); k++) {
                if (k > 0) add(',');
                addNumber(plan.ofLot(k, 0));
                add('-');
                addNumber(plan.ofLot(k, 1));
                add('@');
                addNumber(plan.ofLot(k, 2));
                add(':');
                addNumber(plan.ofLot(k, 3));
            }
        }

        private void addNumber(int v) {
            int unit = 1;
            while (unit <= v / 10 && unit < NONE) unit *= 10;
            for (int u = unit; u > 0; u /= 10) add((char) ('0' + v / u % 10));
        }

        private void add(char sign) {
            if (!inside(length, signs.length)) return;
            signs[length] = sign;
            length++;
        }

        int length() {
            return length;
        }

        int sign(int i) {
            return inside(i, signs.length) ? signs[i] : 0;
        }
    }

    /** The rows on the shelves. */
    static final class Shelves {
        private final long[] values = new long[SHELF_COUNT * MOST_ROW];
        // below 0: nothing is held
        private final int[] sizes = new int[SHELF_COUNT];

        Shelves() {
            for (int shelf = 0; shelf < sizes.length; shelf++) sizes[shelf] = -1;
        }

        void begin(int shelf, int n) {
            lay(sizes, shelf, n);
            for (int i = 0; i < n; i++) store(shelf, i, 0);
        }

        boolean holds(int shelf) {
            return inside(shelf, SHELF_COUNT) && at(sizes, shelf) >= 0;
        }

        boolean hasPlace(int shelf, int i) {
            return holds(shelf) && inside(i, at(sizes, shelf));
        }

        private int placeOf(int shelf, int i) {
            return shelf * MOST_ROW + i;
        }

        long value(int shelf, int i) {
            int place = placeOf(shelf, i);
            return inside(place, values.length) ? values[place] : 0;
        }

        void store(int shelf, int i, long v) {
            int place = placeOf(shelf, i);
            if (inside(place, values.length)) values[place] = v;
        }
    }

    /** The numbers as they were ahead of each change, and ahead of each undoing. */
    static final class Changes {
        private final int[] kept = new int[(MOST_CHANGES + 1) * CELLS];
        // changes that may be undone; these and those that may be done again
        private int behind = 0;
        private int all = 0;

        void begin() {
            behind = 0;
            all = 0;
        }

        /** To be called right ahead of a change. */
        void note(Numbers numbers) {
            if (behind == MOST_CHANGES) forgetFirst();
            numbers.copyTo(kept, behind * CELLS);
            behind++;
            all = behind;
        }

        private void forgetFirst() {
            for (int i = 0; i + CELLS < kept.length; i++) kept[i] = kept[i + CELLS];
            behind--;
        }

        boolean goBack(Numbers numbers) {
            if (behind == 0) return false;
            numbers.copyTo(kept, behind * CELLS);
            behind--;
            numbers.copyFrom(kept, behind * CELLS);
            return true;
        }

        boolean goOn(Numbers numbers) {
            if (behind == all) return false;
            behind++;
            numbers.copyFrom(kept, behind * CELLS);
            return true;
        }

        int behind() {
            return behind;
        }

        int ahead() {
            return all - behind;
        }
    }
}
