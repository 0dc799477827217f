import java.util.Random;

/** Every call with every wild argument, on objects in many states: an answer comes, and nothing is thrown. */
public final class NeverThrowsTest {
    private static final Due DUE = new Due("NeverThrowsTest");
    private static final int[] WILD = {
        Integer.MIN_VALUE, Integer.MIN_VALUE + 1, -10000, -101, -100, -17, -3, -2, -1, 0, 1, 2, 3, 4, 5, 6, 7, 8, 15, 16, 17, 19, 20, 21,
        31, 32, 59, 97, 99, 100, 119, 120, 121, 126, 127, 255, 999, 1000, 65536, 1 << 30, Integer.MAX_VALUE - 1, Integer.MAX_VALUE};

    public static void main(String[] args) {
        for (int seed = 0; seed < 3000; seed++) wildRun(seed);
        for (int method = 0; method < 35; method++) {
            for (int a : WILD) for (int b : WILD) oneCall(method, a, b);
        }
        DUE.end();
    }

    private static void wildRun(int seed) {
        Random random = new Random(seed);
        LotPlanner x = new LotPlanner();
        for (int i = 0; i < 512; i++) {
            int[] v = new int[4];
            for (int k = 0; k < 4; k++) v[k] = random.nextInt(4) == 0 ? WILD[random.nextInt(WILD.length)] : random.nextInt(8);
            tryCall(x, random.nextInt(35), v, "seed " + seed);
        }
    }

    private static void oneCall(int method, int a, int b) {
        LotPlanner x = new LotPlanner();
        x.periods(3);
        x.tellAll(0, 2, 0, 7);
        x.row(0, 20);
        x.image();
        x.tell(1, 0, 0);
        x.undo();
        tryCall(x, method, new int[] {a, b, 0, 0}, "one call");
        tryCall(x, method, new int[] {0, a, b, b}, "one call");
        tryCall(x, method, new int[] {0, 0, a, b}, "one call");
    }

    private static void tryCall(LotPlanner x, int method, int[] v, String name) {
        try {
            call(x, method, v[0], v[1], v[2], v[3]);
        } catch (RuntimeException thrown) {
            DUE.due(name + ", method " + method + " " + v[0] + " " + v[1] + " " + v[2] + " " + v[3] + " threw " + thrown, 1, 0);
        }
        DUE.due("it goes on", x.count(0) >= 1 && x.count(0) <= 16 ? 1 : 0, 1);
    }

    private static long call(LotPlanner x, int method, int a, int b, int c, int d) {
        return switch (method) {
            case 0 -> x.periods(a);
            case 1 -> x.tell(a, b, c);
            case 2 -> x.tellAll(a, b, c, d);
            case 3 -> x.let(a, b);
            case 4 -> x.of(a, b);
            case 5 -> x.feed(a);
            case 6 -> x.read();
            case 7 -> x.least();
            case 8 -> x.lot(a, b);
            case 9 -> x.by(a, b);
            case 10 -> x.forward(a, b);
            case 11 -> x.calm();
            case 12 -> x.part(a, b);
            case 13 -> x.ways();
            case 14 -> x.bounded(a);
            case 15 -> x.rule(a, b, c);
            case 16 -> x.thumb();
            case 17 -> x.more(a);
            case 18 -> x.keeps(a);
            case 19 -> x.touched(a, b, c);
            case 20 -> x.hand(a, b);
            case 21 -> x.handAs(a);
            case 22 -> x.judged(a);
            case 23 -> x.print(a);
            case 24 -> x.row(a, b);
            case 25 -> x.put(a, b, (long) c << (d & 63));
            case 26 -> x.get(a, b);
            case 27 -> x.from(a, b, c);
            case 28 -> x.into(a, b, c);
            case 29 -> x.undo();
            case 30 -> x.redo();
            case 31 -> x.image();
            case 32 -> x.back();
            case 33 -> x.count(a);
            default -> x.feed("demand 1;*23".charAt(Math.floorMod(a, 12)));
        };
    }
}
