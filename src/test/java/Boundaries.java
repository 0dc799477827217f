import java.lang.reflect.Method;
import java.lang.reflect.Modifier;
import java.util.ArrayList;
import java.util.Arrays;
import java.util.Comparator;
import java.util.List;
import java.util.function.ToLongFunction;

/**
 * What the tests of boundaries share. Each static method of such a test that isn't private and has no parameters is a test
 * of its own: its name says the sentence of the document that it holds the program to.
 */
abstract class Boundaries {
    static final int BAD = -1, NOT = -2, FULL = -3, STATE = -5, LONG = -7, NOTHING = -11, PLACE = -13, SIZE = -14, FAR = -10000;
    static final int DEMAND = 0, SETUP = 1, MAKING = 2, HOLDING = 3, LATE = 4, ROOM = 5;
    static final int STORE = 0, LATE_MAY_BE = 1;
    static final int LEAST = Integer.MIN_VALUE, MOST = Integer.MAX_VALUE;

    private static String test = "";
    private static int answers = 0;
    private static int wrong = 0;

    static void runAll(Class<?> tests) throws ReflectiveOperationException {
        Method[] methods = tests.getDeclaredMethods();
        Arrays.sort(methods, Comparator.comparing(Method::getName));
        int many = 0;
        int wrongTests = 0;
        for (Method method : methods) {
            if (method.isSynthetic() || Modifier.isPrivate(method.getModifiers()) || method.getParameterCount() > 0) continue;
            test = tests.getName() + "." + method.getName();
            int wrongAhead = wrong;
            answers = 0;
            method.invoke(null);
            if (answers == 0) tellWrong("nothing was looked at");
            if (wrong > wrongAhead) wrongTests++;
            many++;
        }
        System.out.println(tests.getName() + ": " + many + " tests, " + wrongTests + " failed");
        System.exit(many > 0 && wrongTests == 0 ? 0 : 1);
    }

    private static void tellWrong(String what) {
        wrong++;
        if (wrong <= 50) System.out.println(test + ": " + what);
    }

    static void due(String call, long got, long want) {
        answers++;
        if (got != want) tellWrong(call + " answered " + got + ", due is " + want);
    }

    static void due(String call, String got, String want) {
        answers++;
        if (!got.equals(want)) tellWrong(call + " answered " + got + ", due is " + want);
    }

    // ---- planners

    static LotPlanner ofPeriods(int n) {
        LotPlanner x = new LotPlanner();
        x.periods(n);
        return x;
    }

    static LotPlanner demanding(int... demands) {
        LotPlanner x = ofPeriods(demands.length);
        tellEach(x, DEMAND, demands);
        return x;
    }

    /** As demanding(), and neither setups nor making nor holding nor lateness cost anything. */
    static LotPlanner demandingForNothing(int... demands) {
        LotPlanner x = demanding(demands);
        for (int which = SETUP; which <= LATE; which++) x.tellAll(0, demands.length - 1, which, 0);
        return x;
    }

    static void tellEach(LotPlanner x, int which, int... values) {
        for (int p = 0; p < values.length; p++) x.tell(p, which, values[p]);
    }

    static void handEach(LotPlanner x, int... values) {
        for (int p = 0; p < values.length; p++) x.hand(p, values[p]);
    }

    static void feed(LotPlanner x, String text) {
        for (int i = 0; i < text.length(); i++) x.feed(text.charAt(i));
    }

    static int read(LotPlanner x, String text) {
        feed(x, text);
        return x.read();
    }

    static String printed(LotPlanner x) {
        StringBuilder text = new StringBuilder();
        int length = x.print(-1);
        for (int i = 0; i < length; i++) text.append((char) x.print(i));
        return text.toString();
    }

    static void duePlan(LotPlanner x, String want) {
        due("THE PLAN PRINTED", printed(x), want);
    }

    static void dueBounded(LotPlanner x, int cost, int... made) {
        due("bounded(-1)", x.bounded(-1), cost);
        for (int p = 0; p < made.length; p++) due("bounded(" + p + ")", x.bounded(p), made[p]);
    }

    static void dueEach(LotPlanner x, int which, int... values) {
        for (int p = 0; p < values.length; p++) due("of(" + p + ", " + which + ")", x.of(p, which), values[p]);
    }

    static void dueByHand(LotPlanner x, int... values) {
        for (int p = 0; p < values.length; p++) {
            int v = x.hand(p, 0);
            due("by hand in " + p, v, values[p]);
            x.hand(p, v);
        }
    }

    static void dueRow(LotPlanner x, int shelf, long... values) {
        for (int i = 0; i < values.length; i++) due("get(" + shelf + ", " + i + ")", x.get(shelf, i), values[i]);
        due("get behind the row", x.get(shelf, values.length), Long.MIN_VALUE);
    }

    static int hasBit(int bits, int bit) {
        return bits >> bit & 1;
    }

    // ---- what a call leaves as it was

    /** A planner with some of all there is: changes behind and ahead, something by hand, rows, letters on the tape, an image. */
    static LotPlanner full() {
        LotPlanner x = ofPeriods(3);
        x.tell(0, DEMAND, 7);
        x.let(STORE, 30);
        x.hand(0, 5);
        x.image();
        x.tell(1, DEMAND, 4);
        x.tell(2, DEMAND, 9);
        x.tell(2, SETUP, 8);
        x.undo();
        x.hand(2, 6);
        x.row(0, 3);
        x.put(0, 1, 8);
        x.row(1, 20);
        x.put(1, 19, 5);
        x.row(2, 0);
        feed(x, "la");
        return x;
    }

    static void dueNothingChanged(String call, ToLongFunction<LotPlanner> asked) {
        LotPlanner x = full();
        asked.applyAsLong(x);
        dueSame(call, x, full());
    }

    /** The call is answered so, and changes nothing. */
    static void dueRefused(String call, ToLongFunction<LotPlanner> asked, long want) {
        due(call, asked.applyAsLong(full()), want);
        dueNothingChanged(call, asked);
    }

    /** Both answer the same, and go back, on and to the image through the same; what they are is used up by that. */
    static void dueSame(String when, LotPlanner x, LotPlanner y) {
        due("behind " + when + " all answers", answersOf(x).toString(), answersOf(y).toString());
        due("behind " + when + " the way back", wayBack(x).toString(), wayBack(y).toString());
    }

    private static List<Long> answersOf(LotPlanner x) {
        List<Long> all = new ArrayList<>(numbersOf(x));
        for (int what = 1; what <= 4; what++) all.add((long) x.count(what));
        for (int p = 0; p < x.count(0); p++) {
            int v = x.hand(p, 0);
            x.hand(p, v);
            all.add((long) v);
        }
        for (int shelf = 0; shelf < 4; shelf++) for (int i : new int[] {0, 1, 2, 3, 19}) all.add(x.get(shelf, i));
        for (int what = 0; what < 5; what++) all.add((long) x.lot(0, what));
        for (int p = 0; p < x.count(0); p++) for (int what = 0; what < 2; what++) all.add((long) x.by(p, what));
        for (int what = 0; what < 3; what++) all.add((long) x.judged(what));
        for (int ask : new int[] {x.least(), x.ways(), x.lot(-1, 0), x.print(-1), x.bounded(-1), x.forward(x.count(0), 1)}) all.add((long) ask);
        return all;
    }

    private static List<Long> numbersOf(LotPlanner x) {
        List<Long> all = new ArrayList<>();
        for (int what : new int[] {0, 5, 6}) all.add((long) x.count(what));
        for (int p = 0; p < x.count(0); p++) for (int which = 0; which < 6; which++) all.add((long) x.of(p, which));
        return all;
    }

    private static List<Long> wayBack(LotPlanner x) {
        List<Long> all = new ArrayList<>();
        for (long left = x.undo(); left >= 0; left = x.undo()) all.addAll(numbersOf(x));
        for (long left = x.redo(); left >= 0; left = x.redo()) all.addAll(numbersOf(x));
        all.add((long) x.back());
        all.addAll(numbersOf(x));
        all.add((long) x.judged(2));
        return all;
    }
}
