/** Each promise of the document, by answers that were worked out by hand. */
public final class PromisesTest {
    private static final Due DUE = new Due("PromisesTest");
    private static final int BAD = -1, NOT = -2, FULL = -3, STATE = -5, LONG = -7, FAR = -10000;
    private static final int LEAST = Integer.MIN_VALUE, MOST = Integer.MAX_VALUE;
    private static final int DEMAND = 0, SETUP = 1, MAKING = 2, HOLDING = 3, LATE = 4, ROOM = 5;

    public static void main(String[] args) {
        aNewObject();
        periods();
        tell();
        tellAll();
        let();
        of();
        feed();
        read();
        readFaults();
        leastLotBy();
        leastLate();
        leastTies();
        forward();
        firm();
        calm();
        part();
        ways();
        bounded();
        boundedEdges();
        rule();
        ruleEdges();
        thumb();
        more();
        keeps();
        touched();
        hand();
        handAs();
        judged();
        print();
        rowPutGet();
        from();
        into();
        undoRedo();
        changesKept();
        imageBack();
        count();
        DUE.end();
    }

    private static void due(String call, long got, long want) {
        DUE.due(call, got, want);
    }

    private static LotPlanner demanding(int... demands) {
        LotPlanner x = new LotPlanner();
        x.periods(demands.length);
        for (int p = 0; p < demands.length; p++) x.tell(p, DEMAND, demands[p]);
        return x;
    }

    private static int readText(LotPlanner x, String text) {
        for (int i = 0; i < text.length(); i++) x.feed(text.charAt(i));
        return x.read();
    }

    private static String printed(LotPlanner x) {
        StringBuilder text = new StringBuilder();
        for (int i = 0; i < x.print(-1); i++) text.append((char) x.print(i));
        return text.toString();
    }

    private static void duePlan(String when, LotPlanner x, String want) {
        due(when + ": " + printed(x) + " for " + want, printed(x).equals(want) ? 1 : 0, 1);
    }

    // ---- 1 .. 8

    private static void aNewObject() {
        due("BAD", LotPlanner.BAD, -1);
        due("NOT", LotPlanner.NOT, -2);
        due("FULL", LotPlanner.FULL, -3);
        due("STATE", LotPlanner.STATE, -5);
        due("LONG", LotPlanner.LONG, -7);
        LotPlanner x = new LotPlanner();
        int[] atFirst = {0, 50, 1, 1, 5, 999};
        for (int p = 0; p < 8; p++) for (int w = 0; w < 6; w++) due("new of", x.of(p, w), atFirst[w]);
        int[] counts = {8, 0, 0, 0, 0, 999, 0};
        for (int w = 0; w < 7; w++) due("new count " + w, x.count(w), counts[w]);
        for (int p = 0; p < 8; p++) due("new hand", x.hand(p, 0), 0);
        due("new get", x.get(0, 0), Long.MIN_VALUE);
        due("new put", x.put(3, 0, 1), -11);
        due("new undo", x.undo(), STATE);
        due("new redo", x.redo(), STATE);
        due("new back", x.back(), STATE);
        due("new least", x.least(), 0);
        due("new calm", x.calm(), 1);
    }

    private static void periods() {
        LotPlanner x = new LotPlanner();
        for (int bad : new int[] {0, -1, 17, LEAST, MOST}) due("periods bad", x.periods(bad), BAD);
        due("periods 8 stays", x.count(0), 8);
        x.tell(2, SETUP, 7);
        x.tell(5, SETUP, 9);
        x.tell(5, ROOM, 9);
        x.hand(2, 3);
        x.hand(5, 4);
        due("periods as it is", x.periods(8), 8);
        due("periods as it is: changes stay", x.count(3), 3);
        due("periods 3", x.periods(3), 8);
        due("periods 3: changes", x.count(3), 0);
        due("periods 3: of 3", x.of(3, SETUP), BAD);
        due("periods 3: hand 3", x.hand(3, 0), BAD);
        due("periods 16", x.periods(16), 3);
        due("stays", x.of(2, SETUP), 7);
        due("stays by hand", x.hand(2, 3), 3);
        due("new again: setup", x.of(5, SETUP), 50);
        due("new again: room", x.of(5, ROOM), 999);
        due("new again: by hand", x.hand(5, 0), 0);
        due("new: late", x.of(15, LATE), 5);
        x.tell(0, DEMAND, 1);
        x.undo();
        due("may be done again", x.count(4), 1);
        due("periods 1", x.periods(1), 16);
        due("periods 1: nothing done again", x.count(4), 0);
        due("periods 1: undo", x.undo(), STATE);
        due("periods 1: redo", x.redo(), STATE);
        x.let(0, 5);
        x.let(1, 1);
        x.periods(2);
        due("store stays", x.count(5), 5);
        due("late stays", x.count(6), 1);
    }

    private static void tell() {
        LotPlanner x = new LotPlanner();
        int[] most = {99, 999, 99, 99, 99, 999};
        int[] was = {0, 50, 1, 1, 5, 999};
        for (int w = 0; w < 6; w++) {
            due("tell most", x.tell(7, w, most[w]), was[w]);
            due("tell above", x.tell(7, w, most[w] + 1), BAD);
            due("tell below", x.tell(7, w, -1), BAD);
            due("tell 0", x.tell(7, w, 0), most[w]);
            due("tell told", x.of(7, w), 0);
            due("tell its own period", x.of(6, w), was[w]);
        }
        for (int bad : new int[] {-1, 8, LEAST, MOST}) due("tell period", x.tell(bad, DEMAND, 1), BAD);
        for (int bad : new int[] {-1, 6, LEAST, MOST}) due("tell which", x.tell(0, bad, 1), BAD);
        due("tell: changes", x.count(3), 12);
        x.periods(2);
        due("tell the same", x.tell(0, DEMAND, 0), 0);
        due("tell the same is a change", x.count(3), 1);
        x.tell(2, DEMAND, 0);
        due("refused is no change", x.count(3), 1);
    }

    private static void tellAll() {
        LotPlanner x = new LotPlanner();
        due("tellAll 2 .. 5", x.tellAll(2, 5, SETUP, 9), 4);
        for (int p = 0; p < 8; p++) due("tellAll told " + p, x.of(p, SETUP), p >= 2 && p <= 5 ? 9 : 50);
        due("tellAll one change", x.count(3), 1);
        due("tellAll 3 .. 3", x.tellAll(3, 3, SETUP, 8), 1);
        due("tellAll 0 .. 7", x.tellAll(0, 7, DEMAND, 99), 8);
        due("tellAll all", x.count(1), 792);
        due("tellAll above", x.tellAll(0, 7, DEMAND, 100), BAD);
        due("tellAll below", x.tellAll(0, 7, DEMAND, -1), BAD);
        due("tellAll which", x.tellAll(0, 7, 6, 1), BAD);
        due("tellAll which below", x.tellAll(0, 7, -1, 1), BAD);
        due("tellAll first above last", x.tellAll(3, 2, DEMAND, 1), BAD);
        due("tellAll first", x.tellAll(-1, 2, DEMAND, 1), BAD);
        due("tellAll last", x.tellAll(3, 8, DEMAND, 1), BAD);
        due("tellAll wild", x.tellAll(LEAST, MOST, DEMAND, 1), BAD);
        due("tellAll refused: no change", x.count(3), 3);
        due("tellAll refused: nothing told", x.of(2, DEMAND), 99);
        x.undo();
        due("tellAll undone", x.count(1), 0);
    }

    private static void let() {
        LotPlanner x = new LotPlanner();
        due("let store", x.let(0, 0), 999);
        due("let store again", x.let(0, 999), 0);
        due("let late", x.let(1, 1), 0);
        due("let late again", x.let(1, 0), 1);
        due("let four changes", x.count(3), 4);
        due("let store above", x.let(0, 1000), BAD);
        due("let store below", x.let(0, -1), BAD);
        due("let late 2", x.let(1, 2), BAD);
        due("let late -1", x.let(1, -1), BAD);
        due("let what 2", x.let(2, 0), BAD);
        due("let what -1", x.let(-1, 0), BAD);
        due("let refused: no change", x.count(3), 4);
        due("let the same", x.let(1, 0), 0);
        due("let the same is a change", x.count(3), 5);
    }

    private static void of() {
        LotPlanner x = new LotPlanner();
        x.tell(7, LATE, 17);
        due("of", x.of(7, LATE), 17);
        due("of period 8", x.of(8, 0), BAD);
        due("of period -1", x.of(-1, 0), BAD);
        due("of which 6", x.of(0, 6), BAD);
        due("of which -1", x.of(0, -1), BAD);
        due("of wild", x.of(MOST, LEAST), BAD);
    }

    private static void feed() {
        LotPlanner x = new LotPlanner();
        for (int bad : new int[] {31, 127, 0, -1, 10, 256, LEAST, MOST, 65536 + 32}) due("feed bad", x.feed(bad), BAD);
        due("feed nothing", x.count(2), 0);
        due("feed 32", x.feed(32), 1);
        due("feed 126", x.feed(126), 2);
        for (int i = 3; i <= 120; i++) due("feed", x.feed('a'), i);
        due("feed full", x.feed('a'), FULL);
        due("feed bad ahead of full", x.feed(31), BAD);
        due("feed count", x.count(2), 120);
        x.least();
        x.tell(0, 0, 1);
        x.periods(3);
        x.image();
        x.back();
        due("the tape stays", x.count(2), 120);
        due("read a blank", x.read(), -100);
        due("the tape is empty", x.count(2), 0);
    }

    private static void read() {
        LotPlanner x = new LotPlanner();
        due("read", readText(x, "demand 0 20;setup 07 999;making * 3;holding 6 0;late 1 99;room 2 000;demand 0 9"), 7);
        due("later clauses last", x.of(0, DEMAND), 9);
        due("two figures", x.of(7, SETUP), 999);
        for (int p = 0; p < 8; p++) due("all", x.of(p, MAKING), 3);
        due("holding", x.of(6, HOLDING), 0);
        due("late", x.of(1, LATE), 99);
        due("late is no let", x.count(6), 0);
        due("room", x.of(2, ROOM), 0);
        due("one change", x.count(3), 1);
        due("tape empty", x.count(2), 0);
        x.undo();
        due("undone whole", x.of(0, DEMAND), 0);
        due("undone whole, setup", x.of(7, SETUP), 50);
        due("undone whole, room", x.of(2, ROOM), 999);
        x.periods(16);
        due("period 15", readText(x, "setup 15 1"), 1);
        due("period 15 told", x.of(15, SETUP), 1);
        due("all of 16", readText(x, "room * 5"), 1);
        due("all of 16 told", x.of(15, ROOM), 5);
        due("thirteen", readText(x, "late 1 1;late 1 2;late 1 3;late 1 4;late 1 5;late 1 6;late 1 7;late 1 8;late 1 9;late 1 1;late 1 2;late 1 3;late 1 44"), 13);
        due("thirteen told", x.of(1, LATE), 44);
    }

    private static void readFaults() {
        Object[][] texts = {
            {"", 0}, {" demand 1 1", 0}, {"Demand 1 1", 0}, {"deman", 0}, {"deman 1 1", 0}, {"demands 1 1", 0}, {"x", 0}, {";", 0}, {"1", 0},
            {"demand", 6}, {"demand1 1", 6}, {"demand;", 6}, {"demand*", 6},
            {"demand ", 7}, {"demand  1 1", 7}, {"demand x 1", 7}, {"demand 8 1", 7}, {"demand 99", 7}, {"demand 100 1", 7}, {"demand -1 1", 7},
            {"demand 1", 8}, {"demand *", 8}, {"demand ** 1", 8}, {"demand *1 1", 8}, {"demand 1; 1", 8}, {"demand 1x", 8},
            {"demand 01", 9}, {"demand 007 1", 9}, {"demand 1 ", 9}, {"demand 1 x", 9}, {"demand 1  1", 9}, {"demand 1 100", 9},
            {"demand 1 -1", 9}, {"demand 1 ;", 9}, {"demand 1 999", 9}, {"late 1 100", 7}, {"making 1 100", 9}, {"holding 1 100", 10},
            {"setup 1 1000", 11}, {"room 1 9999", 10}, {"demand 1 0999", 12}, {"demand 1 1 ", 10}, {"demand 1 1x", 10}, {"demand 1 1:", 10},
            {"demand 1 1;", 11}, {"demand 1 1; demand 1 1", 11}, {"demand 1 1;;", 11}, {"demand 1 1;set", 11}, {"demand 1 1;setup", 16},
            {"demand 1 1;setup 9 1", 17}, {"demand 1 1;setup 2 3,", 20}, {"lates 1 1", 0}, {"rooms", 0}, {"a", 0}, {"setup * 12a", 10}};
        for (Object[] text : texts) {
            LotPlanner x = new LotPlanner();
            x.tell(0, DEMAND, 5);
            x.undo();
            due("fault of «" + text[0] + "»", readText(x, (String) text[0]), -100 - (int) text[1]);
            due("fault empties the tape", x.count(2), 0);
            due("fault tells nothing", x.of(1, DEMAND), 0);
            due("fault is no change", x.count(3), 0);
            due("fault lets done again", x.count(4), 1);
        }
        LotPlanner x = new LotPlanner();
        x.periods(16);
        due("period 16", readText(x, "demand 16 1"), -107);
        due("period 10 .. 15", readText(x, "demand 10 1"), 1);
        x.periods(10);
        due("period 10 of 10", readText(x, "demand 10 1"), -107);
    }

    // ---- 9 .. 15

    private static void leastLotBy() {
        // 10 alone, 25 made in 2: 60 and 80; all made in 0: 140, too
        LotPlanner x = demanding(10, 0, 20, 5);
        due("least", x.least(), 140);
        due("lots", x.lot(-1, LEAST), 2);
        int[][] lots = {{0, 0, 0, 10, 60}, {1, 3, 2, 25, 80}};
        for (int k = 0; k < 2; k++) for (int w = 0; w < 5; w++) due("lot " + k + " " + w, x.lot(k, w), lots[k][w]);
        for (int w = 0; w < 5; w++) due("lot 2", x.lot(2, w), NOT);
        due("lot most", x.lot(MOST, 0), NOT);
        due("lot -2", x.lot(-2, 0), BAD);
        due("lot least", x.lot(LEAST, 0), BAD);
        due("lot what 5", x.lot(0, 5), BAD);
        due("lot what -1", x.lot(0, -1), BAD);
        due("lot what bad ahead of not", x.lot(9, 5), BAD);
        int[] made = {10, 0, 25, 0};
        int[] stock = {0, 0, 5, 0};
        for (int p = 0; p < 4; p++) {
            due("made " + p, x.by(p, 0), made[p]);
            due("stock " + p, x.by(p, 1), stock[p]);
        }
        due("by period", x.by(4, 0), FAR);
        due("by period -1", x.by(-1, 0), FAR);
        due("by what", x.by(0, 2), FAR);
        due("by what -1", x.by(0, -1), FAR);
        x.tell(2, SETUP, 51);
        due("dearer: all in 0", x.least(), 140);
        duePlan("dearer", x, "0-3@0:35");
        due("stock all in 0", x.by(1, 1), 25);
        x.let(0, 0);
        x.tellAll(0, 3, ROOM, 0);
        due("rooms and store don't matter", x.least(), 140);
        x.tellAll(0, 3, DEMAND, 0);
        due("nothing wanted", x.least(), 0);
        due("no lot", x.lot(-1, 0), 0);
        due("no lot 0", x.lot(0, 0), NOT);
        x.tell(0, SETUP, 0);
        x.tell(0, MAKING, 0);
        x.tell(0, DEMAND, 9);
        due("a lot for nothing", x.least(), 0);
        due("is a lot", x.lot(-1, 0), 1);
    }

    private static void leastLate() {
        // all made in 1 for 10: 20 pieces, 10 of them late by one period
        LotPlanner x = demanding(10, 10, 0);
        x.tell(1, SETUP, 10);
        x.tell(2, SETUP, 1);
        x.tellAll(0, 2, LATE, 2);
        due("not late: 60 and 20", x.least(), 80);
        x.let(1, 1);
        due("late: 10, 20, 20", x.least(), 50);
        duePlan("late", x, "0-1@1:20");
        due("late: owed", x.by(0, 1), -10);
        due("late: made", x.by(1, 0), 20);
        x.tell(1, SETUP, 80);
        // in 2: 1, 20, 20 and 40; in 0: 50, 20, 10
        due("late, made in 0", x.least(), 80);
        x.tell(0, SETUP, 52);
        due("late, made behind all demand", x.least(), 81);
        duePlan("late, behind all", x, "0-2@2:20");
        due("late: owed more", x.by(1, 1), -20);
        x.tell(1, LATE, 0);
        due("late for nothing in 1", x.least(), 41);
        x.let(1, 0);
        due("not late again", x.least(), 82);
    }

    private static void leastTies() {
        LotPlanner x = demanding(0, 0, 7, 0, 0);
        duePlan("made late, ends early", x, "0-2@2:7");
        x.tellAll(0, 4, HOLDING, 0);
        duePlan("made first of several", x, "0-2@0:7");
        x.tell(0, SETUP, 51);
        duePlan("made first of those of the least cost", x, "0-2@1:7");
        LotPlanner y = demanding(50, 0, 50);
        duePlan("ends first of several", y, "0-0@0:50,1-2@2:50");
        y.tellAll(0, 2, HOLDING, 0);
        duePlan("cheaper as one", y, "0-2@0:100");
        y.tell(2, SETUP, 0);
        duePlan("ends first, then made first", y, "0-0@0:50,1-2@2:50");
        y.tell(1, SETUP, 0);
        duePlan("the second made first", y, "0-0@0:50,1-2@1:50");
    }

    private static void forward() {
        LotPlanner x = demanding(10, 0, 20, 5);
        int[] cost = {0, 60, 60, 120, 140};
        int[] last = {NOT, 0, 0, 0, 2};
        for (int t = 0; t <= 4; t++) {
            due("forward " + t, x.forward(t, 0), cost[t]);
            due("last " + t, x.forward(t, 1), last[t]);
        }
        due("forward 5", x.forward(5, 0), BAD);
        due("forward -1", x.forward(-1, 0), BAD);
        due("forward what 3", x.forward(0, 3), BAD);
        due("forward what -1", x.forward(0, -1), BAD);
        due("forward wild", x.forward(MOST, LEAST), BAD);
        LotPlanner y = demanding(0, 0, 60, 0, 60);
        due("the first lot begins with 0", y.forward(3, 1), 0);
        due("the last may begin without demand, greatest", y.forward(5, 1), 4);
        due("none ahead of demand", y.forward(2, 1), NOT);
        due("none ahead of demand, cost", y.forward(2, 0), 0);
        due("firm of none", y.forward(2, 2), 0);
    }

    private static void firm() {
        LotPlanner x = demanding(10, 60, 0, 60, 0, 1);
        due("last 2", x.forward(2, 1), 1);
        due("firm 2", x.forward(2, 2), 1);
        due("firm 3: none behind last", x.forward(3, 2), 1);
        due("firm 4", x.forward(4, 2), 3);
        due("firm 5", x.forward(5, 2), 3);
        due("last 6", x.forward(6, 1), 3);
        due("firm 6: demand behind last", x.forward(6, 2), 0);
        due("firm 0", x.forward(0, 2), 0);
        x.tell(5, MAKING, 3);
        due("not calm far ahead", x.forward(4, 2), 0);
        due("last as ever", x.forward(4, 1), 3);
        x.undo();
        x.let(1, 1);
        due("late: not firm", x.forward(4, 2), 0);
    }

    private static void calm() {
        LotPlanner x = new LotPlanner();
        due("calm", x.calm(), 1);
        x.tell(3, MAKING, 2);
        due("calm just", x.calm(), 1);
        x.tell(3, MAKING, 3);
        due("not calm", x.calm(), 0);
        x.tell(2, HOLDING, 2);
        due("calm by holding", x.calm(), 1);
        x.tell(7, MAKING, 99);
        due("not calm by the last", x.calm(), 0);
        x.tell(6, HOLDING, 98);
        due("calm by the holding ahead of the last", x.calm(), 1);
        x.tell(0, MAKING, 99);
        x.tell(0, HOLDING, 0);
        due("calm downward", x.calm(), 1);
        x.let(1, 1);
        due("late is not calm", x.calm(), 0);
    }

    private static void part() {
        LotPlanner x = demanding(10, 0, 20, 5);
        int[][] cost = {{0, 60, 60, 120, 140}, {0, 0, 0, 70, 80}, {0, 0, 0, 70, 80}, {0, 0, 0, 0, 55}, {0, 0, 0, 0, 0}};
        for (int a = 0; a <= 4; a++) for (int n = a; n <= 4; n++) due("part " + a + " " + n, x.part(a, n), cost[a][n]);
        due("part back", x.part(2, 1), BAD);
        due("part 5", x.part(0, 5), BAD);
        due("part 5 5", x.part(5, 5), BAD);
        due("part -1", x.part(-1, 2), BAD);
        due("part wild", x.part(LEAST, MOST), BAD);
        due("part leaves the plan", x.least(), 140);
        duePlan("part leaves the lots", x, "0-0@0:10,1-3@2:25");
        due("part leaves the ways", x.ways(), 3);
    }

    private static void ways() {
        due("ways of nothing", new LotPlanner().ways(), 1);
        due("ways", demanding(10, 0, 20, 5).ways(), 3);
        due("a lot may end behind its demand", demanding(10, 0, 0).ways(), 3);
        due("a lot has one head", demanding(0, 0, 10).ways(), 1);
        LotPlanner x = demanding(1, 1, 1);
        x.tellAll(0, 2, SETUP, 0);
        x.tellAll(0, 2, HOLDING, 0);
        due("all four ways to cut", x.ways(), 4);
        x.let(1, 1);
        x.tellAll(0, 2, LATE, 0);
        // 1 by 1 by 1, 2 by 1, 1 by 2, 3: made in any of each
        due("made anywhere", x.ways(), 8);
        x = new LotPlanner();
        x.periods(16);
        x.tellAll(0, 15, DEMAND, 1);
        x.tellAll(0, 15, SETUP, 0);
        x.tellAll(0, 15, HOLDING, 0);
        due("9999 at most", x.ways(), 9999);
        x.periods(14);
        due("8192", x.ways(), 8192);
        x.periods(15);
        x.tell(14, DEMAND, 0);
        // each of the 8192 with a last lot that ends with 13 or with 14
        due("16384 are 9999", x.ways(), 9999);
        due("ways leave the plan", x.lot(-1, 0), 14);
    }

    // ---- 16 .. 18

    private static void bounded() {
        LotPlanner x = demanding(10, 0, 20, 5);
        // the least made in 0 first of 140: 10, then 25 in 2
        int[] made = {10, 0, 25, 0};
        due("bounded cost", x.bounded(-1), 140);
        for (int p = 0; p < 4; p++) due("bounded " + p, x.bounded(p), made[p]);
        x.tell(2, ROOM, 24);
        due("room of 24: all in 0", x.bounded(-1), 140);
        due("room of 24: 0", x.bounded(0), 35);
        x.let(0, 24);
        // 11 in 0, 24 in 2: 50 + 11 + 1 + 1, 50 + 24 + 5
        due("store of 24", x.bounded(-1), 142);
        due("store of 24: 0", x.bounded(0), 11);
        due("store of 24: 2", x.bounded(2), 24);
        x.tell(0, ROOM, 10);
        // 10, 20, 5 alone: 60, 70, 55; with one in 1: 60, 51 + 1, 79
        due("room of 10: 2", x.bounded(2), 20);
        due("room of 10", x.bounded(-1), 185);
        x.tell(0, ROOM, 9);
        due("not enough", x.bounded(-1), NOT);
        due("not enough, a period", x.bounded(3), NOT);
        x.let(1, 1);
        // ten owed, then 11 in 1, 24 in 2: 50, 61 + 1, 79
        due("ten late", x.bounded(-1), 191);
        due("ten late: 0", x.bounded(0), 0);
        due("ten late: 1", x.bounded(1), 11);
        x.tell(0, LATE, 6);
        // 9, 21 in 2, 5 in 3: 59 + 6, 5, 71, 55
        due("one late", x.bounded(-1), 196);
        due("one late: 0", x.bounded(0), 9);
        due("one late: 2", x.bounded(2), 21);
        due("bounded -2", x.bounded(-2), BAD);
        due("bounded 4", x.bounded(4), BAD);
        due("bounded wild", x.bounded(MOST), BAD);
    }

    private static void boundedEdges() {
        LotPlanner x = demanding(60, 60);
        due("120", x.bounded(-1), 220);
        x.tell(1, DEMAND, 61);
        due("121", x.bounded(-1), LONG);
        due("121, a period", x.bounded(0), LONG);
        due("bad ahead of long", x.bounded(2), BAD);
        x.tellAll(0, 1, ROOM, 0);
        due("long ahead of not", x.bounded(-1), LONG);
        x.tellAll(0, 1, DEMAND, 0);
        due("nothing wanted", x.bounded(-1), 0);
        due("nothing made", x.bounded(0), 0);
        LotPlanner y = demanding(4, 4);
        y.tellAll(0, 1, HOLDING, 0);
        y.tell(1, SETUP, 0);
        due("each alone", y.bounded(0), 4);
        y.tell(1, SETUP, 50);
        due("all in 0", y.bounded(0), 8);
        y.tell(0, ROOM, 6);
        due("least made in 0 of several", y.bounded(0), 4);
        y.let(0, 0);
        due("store 0", y.bounded(-1), 108);
        LotPlanner z = demanding(0, 5);
        z.let(1, 1);
        z.tellAll(0, 1, ROOM, 3);
        due("some ahead", z.bounded(-1), 107);
        due("some ahead: 0", z.bounded(0), 2);
        z.tell(0, DEMAND, 2);
        due("late behind the last may not be", z.bounded(-1), NOT);
        z.tell(1, ROOM, 4);
        due("three and four", z.bounded(-1), 108);
    }

    private static void rule() {
        LotPlanner x = demanding(20, 0, 30, 5, 5, 40, 0, 7);
        int[][] due = {{407, 6, 0b10111101}, {352, 4, 0b10010101}, {286, 3, 0b100101}, {286, 3, 0b100101}};
        for (int r = 0; r < 4; r++) for (int w = 0; w < 3; w++) due("rule " + r + " " + w, x.rule(r, 2, w), due[r][w]);
        due("every 1 as each", x.rule(1, 1, 2), 0b10111101);
        due("every 1: cost", x.rule(1, 1, 0), 407);
        // 107 pieces, 60 + 15 + 20 + 200 + 49 held
        due("every 8", x.rule(1, 8, 0), 501);
        due("every 16", x.rule(1, 16, 1), 1);
        due("n doesn't matter", x.rule(0, LEAST, 1), 6);
        due("n doesn't matter: parts", x.rule(3, MOST, 1), 3);
        due("every 0", x.rule(1, 0, 0), BAD);
        due("every 17", x.rule(1, 17, 0), BAD);
        due("every -1", x.rule(1, -1, 0), BAD);
        due("rule 4", x.rule(4, 1, 0), BAD);
        due("rule -1", x.rule(-1, 1, 0), BAD);
        due("rule what 3", x.rule(0, 1, 3), BAD);
        due("rule what -1", x.rule(0, 1, -1), BAD);
    }

    private static void ruleEdges() {
        LotPlanner x = demanding(0, 0, 25, 25, 0, 1);
        due("begins with demand", x.rule(0, 0, 2), 0b101100);
        // (50 + 25) : 2 is less than 50; 75 : 3 less; (75 + 3) : 4 is less than 25
        due("mean takes all", x.rule(2, 0, 2), 0b100);
        // 25 is no more than 50, 28 neither
        due("parts takes all", x.rule(3, 0, 2), 0b100);
        x.tell(2, SETUP, 28);
        due("parts takes what is as much", x.rule(3, 0, 2), 0b100);
        x.tell(2, SETUP, 27);
        due("parts leaves what is more", x.rule(3, 0, 2), 0b100100);
        due("its cost", x.rule(3, 0, 0), 27 + 50 + 25 + 51);
        LotPlanner y = demanding(5, 50, 1);
        due("mean takes what is as much", y.rule(2, 0, 2), 0b1);
        y.tell(1, DEMAND, 51);
        // 101 : 2 is more than 50, uncut
        due("mean leaves what is more", y.rule(2, 0, 2), 0b11);
        y.tell(0, HOLDING, 0);
        due("mean by the holding of each", y.rule(2, 0, 2), 0b1);
        y.let(1, 1);
        y.tellAll(0, 2, LATE, 0);
        due("late doesn't matter", y.rule(2, 0, 0), 50 + 57 + 1);
        LotPlanner z = demanding(0, 0, 0);
        for (int r = 0; r < 4; r++) for (int w = 0; w < 3; w++) due("rule of nothing", z.rule(r, 1, w), 0);
        LotPlanner u = demanding(1, 0, 1, 0, 0, 1);
        due("every 2 begins anew with demand", u.rule(1, 2, 2), 0b100101);
        due("every 3", u.rule(1, 3, 2), 0b100001);
        due("each ends ahead of the next, cost", u.rule(0, 0, 0), 153);
    }

    private static void thumb() {
        due("thumb of nothing", new LotPlanner().thumb(), 0);
        due("thumb each", demanding(99, 99).thumb(), 0);
        due("thumb mean", demanding(20, 0, 30, 5, 5, 40, 0, 7).thumb(), 200);
        due("thumb every 2", demanding(9, 9).thumb(), 102);
        due("thumb every 3", demanding(5, 5, 5, 60, 5, 5).thumb(), 103);
        // each and mean 240, every 2 and 3 250, every 4 260, parts 60 and 170
        due("thumb parts", demanding(10, 60, 0, 20).thumb(), 300);
        LotPlanner x = demanding(9, 35, 4, 9, 9, 35, 4, 9, 4, 9, 9, 9, 9, 9, 9, 9);
        due("thumb by asking for all", x.thumb(), thumbSlowly(x));
        due("thumb changes nothing", x.count(1), 181);
    }

    private static int thumbSlowly(LotPlanner x) {
        int best = 300;
        if (x.rule(2, 0, 0) <= x.rule(3, 0, 0)) best = 200;
        for (int n = 16; n >= 1; n--) if (x.rule(1, n, 0) <= x.rule(best / 100, best % 100, 0)) best = 100 + n;
        return x.rule(0, 0, 0) <= x.rule(best / 100, best % 100, 0) ? 0 : best;
    }

    // ---- 19 .. 21

    private static void more() {
        LotPlanner x = demanding(10, 0, 20, 5);
        int[] more = {1, 2, 1, 2};
        for (int p = 0; p < 4; p++) due("more " + p, x.more(p), more[p]);
        due("more in one lot alone", demanding(1, 1).more(1), 2);
        due("more of nothing", demanding(0, 0).more(1), 51);
        due("more period", x.more(4), FAR);
        due("more -1", x.more(-1), FAR);
        due("more changes nothing", x.count(1), 35);
        due("more is no change", x.count(3), 4);
        x.tell(0, DEMAND, 98);
        due("more of 98", x.more(0), 1);
        x.tell(0, DEMAND, 99);
        due("more of 99", x.more(0), FAR);
    }

    private static void keeps() {
        LotPlanner x = demanding(10, 0, 20, 5);
        due("keeps: must be", x.keeps(0), 999);
        due("keeps: none made", x.keeps(1), NOT);
        // 140 against 140: the one that ends first
        due("keeps just", x.keeps(2), 50);
        due("keeps: none made in 3", x.keeps(3), NOT);
        x.tell(2, SETUP, 0);
        due("keeps is the same", x.keeps(2), 50);
        due("keeps changes nothing", x.of(2, SETUP), 0);
        due("keeps is no change", x.count(3), 5);
        x.tell(1, SETUP, 0);
        // made in 1, 25 more are held: with 25 the one is as good, and made first
        due("keeps against the one ahead", x.keeps(2), 24);
        x.tell(2, SETUP, 25);
        due("keeps no more", x.keeps(2), NOT);
        due("keeps period", x.keeps(4), BAD);
        due("keeps -1", x.keeps(-1), BAD);
        LotPlanner y = demanding(60, 60);
        y.tell(0, HOLDING, 99);
        due("keeps 999 against 5940 held", y.keeps(1), 999);
        y.let(1, 1);
        y.tellAll(0, 1, LATE, 2);
        // both alone: SETUP + 60, 110; both in 1: 50 + 120 + 120; both in 0: SETUP + 120 + 5940
        due("late: 0 alone up to 120", y.keeps(0), 120);
        due("late: 1 makes in each plan that pays", y.keeps(1), 999);
    }

    private static void touched() {
        LotPlanner x = demanding(10, 0, 20, 5);
        due("touched nothing", x.touched(0, 10, 0), 0);
        due("touched nothing: first", x.touched(0, 10, 1), NOT);
        due("touched nothing: cost", x.touched(0, 10, 2), 0);
        due("touched alone", x.touched(3, 6, 0), 1);
        due("touched alone: first", x.touched(3, 6, 1), 2);
        due("touched alone: cost", x.touched(3, 6, 2), 2);
        // all in 0: 50 + 34 + 24 + 24 + 4
        due("touched both", x.touched(3, 4, 0), 2);
        due("touched both: cost", x.touched(3, 4, 2), -4);
        // with 19 in 2 all are made in 0: 50 + 34 + 24 + 24 + 5
        due("touched two", x.touched(2, 19, 0), 2);
        due("touched two: first", x.touched(2, 19, 1), 0);
        due("touched two: cost", x.touched(2, 19, 2), -3);
        due("touched to 0", x.touched(0, 0, 2), -60);
        due("touched to 0: one", x.touched(0, 0, 0), 1);
        due("touched to 0: first", x.touched(0, 0, 1), 0);
        due("touched by 99 in 3", x.touched(3, 99, 0), 3);
        due("touched by 99 in 3: first", x.touched(3, 99, 1), 0);
        // 10 and 20 in 0, 99 in 3: 50 + 30 + 40, 149
        due("touched by 99 in 3: cost", x.touched(3, 99, 2), 129);
        due("touched above", x.touched(0, 100, 0), FAR);
        due("touched below", x.touched(0, -1, 0), FAR);
        due("touched period", x.touched(4, 0, 0), FAR);
        due("touched -1", x.touched(-1, 0, 0), FAR);
        due("touched what 3", x.touched(0, 0, 3), FAR);
        due("touched what -1", x.touched(0, 0, -1), FAR);
        due("touched changes nothing", x.least(), 140);
        due("touched is no change", x.count(3), 4);
    }

    // ---- 22 .. 24

    private static void hand() {
        LotPlanner x = demanding(10, 20);
        due("hand", x.hand(1, 999), 0);
        due("hand again", x.hand(1, 0), 999);
        due("hand was", x.hand(1, 3), 0);
        due("hand of its own", x.hand(0, 0), 0);
        due("hand above", x.hand(0, 1000), BAD);
        due("hand below", x.hand(0, -1), BAD);
        due("hand period", x.hand(2, 0), BAD);
        due("hand -1", x.hand(-1, 0), BAD);
        due("hand is no change", x.count(3), 2);
        x.undo();
        due("hand is not undone", x.hand(1, 3), 3);
        x.hand(0, 1);
        due("hand leaves what may be done again", x.count(4), 1);
    }

    private static void handAs() {
        LotPlanner x = demanding(10, 0, 20, 5);
        due("as the plan", x.handAs(0), 35);
        due("as the plan: 0", x.hand(0, 7), 10);
        due("as the plan: 2", x.hand(2, 7), 25);
        due("as the plan: 1", x.hand(1, 7), 0);
        x.tell(2, ROOM, 24);
        x.let(0, 24);
        due("as bounded", x.handAs(1), 35);
        due("as bounded: 0", x.hand(0, 7), 11);
        due("as bounded: 1", x.hand(1, 7), 0);
        due("as bounded: 2", x.hand(2, 7), 24);
        due("handAs is no change", x.count(3), 6);
        x.tell(0, ROOM, 9);
        due("as bounded that is not", x.handAs(1), NOT);
        due("stays", x.hand(0, 7), 7);
        x.tellAll(0, 3, DEMAND, 99);
        due("as bounded that is long", x.handAs(1), LONG);
        due("stays, long", x.hand(0, 7), 7);
        due("nothing", x.handAs(2), 0);
        due("nothing: 0", x.hand(0, 0), 0);
        due("handAs 3", x.handAs(3), BAD);
        due("handAs -1", x.handAs(-1), BAD);
        LotPlanner y = new LotPlanner();
        y.periods(16);
        y.tellAll(0, 15, DEMAND, 99);
        y.tellAll(0, 15, HOLDING, 0);
        due("more than 999 in a period", y.handAs(0), 1584);
        due("more than 999: 0", y.hand(0, 0), 1584);
    }

    private static void judged() {
        LotPlanner x = demanding(10, 0, 20, 5);
        // owed 10, 10, 30, 35 of 5 each
        due("judged nothing: cost", x.judged(0), 425);
        due("judged nothing: wrong", x.judged(1), 0);
        due("judged nothing: stock", x.judged(2), -35);
        x.handAs(0);
        due("judged plan: cost", x.judged(0), 140);
        due("judged plan: wrong", x.judged(1), NOT);
        due("judged plan: stock", x.judged(2), 0);
        x.hand(3, 2);
        // 52 more, and two held
        due("judged too many: cost", x.judged(0), 194);
        due("judged too many: wrong", x.judged(1), 3);
        due("judged too many: stock", x.judged(2), 2);
        x.handAs(0);
        x.tell(2, ROOM, 24);
        due("judged above room", x.judged(1), 2);
        x.tell(2, ROOM, 25);
        due("judged as room", x.judged(1), NOT);
        x.let(0, 5);
        due("judged as store", x.judged(1), NOT);
        x.let(0, 4);
        due("judged above store", x.judged(1), 2);
        x.let(0, 999);
        x.tell(2, ROOM, 26);
        x.hand(0, 9);
        x.hand(2, 26);
        due("judged owed", x.judged(1), 0);
        due("judged owed: cost", x.judged(0), 59 + 5 + 5 + 76 + 5);
        x.let(1, 1);
        due("judged late", x.judged(1), NOT);
        x.hand(3, 0);
        x.hand(2, 25);
        due("judged owed behind the last", x.judged(1), 3);
        due("judged what 3", x.judged(3), FAR);
        due("judged what -1", x.judged(-1), FAR);
    }

    // ---- 25 .. 30

    private static void print() {
        LotPlanner x = demanding(10, 0, 20, 5);
        String text = "0-0@0:10,1-3@2:25";
        due("print length", x.print(-1), text.length());
        for (int i = 0; i < text.length(); i++) due("print " + i, x.print(i), text.charAt(i));
        due("print behind", x.print(text.length()), NOT);
        due("print most", x.print(MOST), NOT);
        due("print -2", x.print(-2), BAD);
        due("print least", x.print(LEAST), BAD);
        LotPlanner y = new LotPlanner();
        due("print nothing", y.print(-1), 0);
        due("print nothing 0", y.print(0), NOT);
        y.periods(16);
        y.tellAll(0, 15, DEMAND, 99);
        y.tellAll(0, 15, HOLDING, 0);
        duePlan("print 1584", y, "0-15@0:1584");
        y.tellAll(0, 15, HOLDING, 99);
        StringBuilder all = new StringBuilder();
        for (int p = 0; p < 16; p++) all.append(p > 0 ? "," : "").append(p).append('-').append(p).append('@').append(p).append(":99");
        duePlan("print sixteen", y, all.toString());
        y.tell(9, DEMAND, 0);
        y.tell(10, DEMAND, 10);
        due("print ten", printed(y).contains(",9-10@10:10,") ? 1 : 0, 1);
    }

    private static void rowPutGet() {
        LotPlanner x = new LotPlanner();
        due("row", x.row(0, 3), 1);
        due("put", x.put(0, 2, Long.MAX_VALUE), 1);
        due("get", x.get(0, 2), Long.MAX_VALUE);
        due("get 0", x.get(0, 0), 0);
        due("put least", x.put(0, 0, Long.MIN_VALUE), 1);
        due("get least", x.get(0, 0), Long.MIN_VALUE);
        due("get 3", x.get(0, 3), Long.MIN_VALUE);
        due("get -1", x.get(0, -1), Long.MIN_VALUE);
        due("get shelf 1", x.get(1, 0), Long.MIN_VALUE);
        due("get shelf 4", x.get(4, 0), Long.MIN_VALUE);
        due("get shelf -1", x.get(-1, 0), Long.MIN_VALUE);
        due("put 3", x.put(0, 3, 1), -13);
        due("put -1", x.put(0, -1, 1), -13);
        due("put nothing", x.put(1, 0, 1), -11);
        due("put nothing ahead of place", x.put(1, -1, 1), -11);
        due("put shelf 4", x.put(4, 0, 1), BAD);
        due("put shelf -1", x.put(-1, 0, 1), BAD);
        due("row again", x.row(0, 3), 1);
        due("row again is 0", x.get(0, 2), 0);
        due("row 20", x.row(3, 20), 1);
        due("row 20: 19", x.put(3, 19, 5), 1);
        due("row 20: get", x.get(3, 19), 5);
        due("row 20: 20", x.put(3, 20, 5), -13);
        due("row 21", x.row(3, 21), BAD);
        due("row -1", x.row(3, -1), -14);
        due("row shelf ahead of size", x.row(4, -1), BAD);
        due("row shelf -1", x.row(-1, 1), BAD);
        due("row refused stays", x.get(3, 19), 5);
        due("row 0", x.row(3, 0), 1);
        due("row 0: put", x.put(3, 0, 1), -13);
        due("row 0: get", x.get(3, 0), Long.MIN_VALUE);
        due("rows apart", x.row(2, 20), 1);
        x.put(2, 19, 6);
        x.row(3, 1);
        due("rows apart still", x.get(2, 19), 6);
        due("rows are no changes", x.count(3), 0);
    }

    private static void from() {
        LotPlanner x = new LotPlanner();
        x.row(1, 5);
        long[] row = {7, 99, 0, 100, 8};
        for (int i = 0; i < 5; i++) x.put(1, i, row[i]);
        x.tellAll(0, 7, DEMAND, 1);
        due("from until 100", x.from(1, 0, 2), 3);
        int[] demand = {1, 1, 7, 99, 0, 1, 1, 1};
        for (int p = 0; p < 8; p++) due("from: " + p, x.of(p, DEMAND), demand[p]);
        due("from one change", x.count(3), 2);
        due("from the last place", x.from(1, 4, 0), 1);
        due("from the last place came", x.of(0, DEMAND), 8);
        due("from until periods end", x.from(1, 0, 7), 1);
        due("from one that may not be", x.from(1, 3, 0), 0);
        due("from is a change with 0, too", x.count(3), 5);
        due("from the end", x.from(1, 5, 0), 0);
        due("from far behind", x.from(1, MOST, 0), 0);
        due("from behind is a change", x.count(3), 7);
        x.undo();
        due("from refused: place", x.from(1, -1, 0), -13);
        due("from refused: nothing", x.from(0, 0, 0), -11);
        due("from refused: nothing ahead of place", x.from(0, -1, 0), -11);
        due("from refused: shelf", x.from(4, 0, 0), BAD);
        due("from refused: shelf -1", x.from(-1, 0, 0), BAD);
        due("from refused: period", x.from(1, 0, 8), BAD);
        due("from refused: period -1", x.from(1, -1, -1), BAD);
        due("from refused is no change", x.count(3), 6);
        due("from refused leaves what may be done again", x.count(4), 1);
        x.put(1, 0, -1);
        due("from below 0", x.from(1, 0, 0), 0);
        due("from: nothing done again", x.count(4), 0);
        x.put(1, 0, 1L << 32);
        due("from far above", x.from(1, 0, 0), 0);
        due("from far above: stays", x.of(0, DEMAND), 8);
        x.row(2, 0);
        due("from an empty row", x.from(2, 0, 0), 0);
        due("from leaves the row", x.get(1, 1), 99);
    }

    private static void into() {
        LotPlanner x = demanding(10, 0, 20, 5);
        x.row(0, 6);
        for (int i = 0; i < 6; i++) x.put(0, i, -7);
        due("into made", x.into(0, 1, 0), 4);
        long[] made = {-7, 10, 0, 25, 0, -7};
        for (int i = 0; i < 6; i++) due("into made " + i, x.get(0, i), made[i]);
        due("into stock", x.into(0, 3, 1), 3);
        long[] stock = {-7, 10, 0, 0, 0, 5};
        for (int i = 0; i < 6; i++) due("into stock " + i, x.get(0, i), stock[i]);
        due("into forward", x.into(0, 0, 2), 4);
        long[] forward = {60, 60, 120, 140, 0, 5};
        for (int i = 0; i < 6; i++) due("into forward " + i, x.get(0, i), forward[i]);
        due("into the end", x.into(0, 6, 0), 0);
        due("into far behind", x.into(0, MOST, 0), 0);
        due("into place", x.into(0, -1, 0), -13);
        due("into nothing", x.into(1, -1, 0), -11);
        due("into shelf", x.into(4, 0, 0), BAD);
        due("into shelf -1", x.into(-1, 0, 0), BAD);
        due("into what 3", x.into(0, 0, 3), BAD);
        due("into what ahead of nothing", x.into(1, 0, -1), BAD);
        due("into is no change", x.count(3), 4);
    }

    // ---- 31 .. 35

    private static void undoRedo() {
        LotPlanner x = new LotPlanner();
        x.tell(0, DEMAND, 5);
        x.let(0, 7);
        x.let(1, 1);
        x.row(0, 1);
        x.put(0, 0, 9);
        x.from(0, 0, 1);
        due("four", x.count(3), 4);
        due("undo from", x.undo(), 3);
        due("from undone", x.of(1, DEMAND), 0);
        due("rows stay", x.get(0, 0), 9);
        due("undo late", x.undo(), 2);
        due("late undone", x.count(6), 0);
        due("undo store", x.undo(), 1);
        due("store undone", x.count(5), 999);
        due("undo tell", x.undo(), 0);
        due("tell undone", x.of(0, DEMAND), 0);
        due("no more", x.undo(), STATE);
        due("redo tell", x.redo(), 3);
        due("tell done", x.of(0, DEMAND), 5);
        due("redo store", x.redo(), 2);
        due("store done", x.count(5), 7);
        due("redo late", x.redo(), 1);
        due("late done", x.count(6), 1);
        due("redo from", x.redo(), 0);
        due("from done", x.of(1, DEMAND), 9);
        due("no more again", x.redo(), STATE);
        x.undo();
        x.undo();
        due("behind", x.count(3), 2);
        due("ahead", x.count(4), 2);
        x.least();
        x.touched(0, 9, 0);
        x.handAs(0);
        x.image();
        x.tell(8, 0, 0);
        due("asking keeps what may be done again", x.count(4), 2);
        x.tell(0, DEMAND, 5);
        due("a change ends it", x.count(4), 0);
        due("no redo behind a change", x.redo(), STATE);
        due("undo goes on", x.undo(), 2);
    }

    private static void changesKept() {
        LotPlanner x = new LotPlanner();
        for (int v = 1; v <= 15; v++) x.tell(0, DEMAND, v);
        due("twelve kept", x.count(3), 12);
        for (int left = 11; left >= 0; left--) {
            due("undo", x.undo(), left);
            due("undone to", x.of(0, DEMAND), left + 3);
        }
        due("all undone", x.undo(), STATE);
        due("at the oldest kept", x.of(0, DEMAND), 3);
        for (int left = 11; left >= 0; left--) {
            due("redo", x.redo(), left);
            due("done to", x.of(0, DEMAND), 15 - left);
        }
        due("all done", x.redo(), STATE);
        x.undo();
        x.tell(1, DEMAND, 9);
        due("still twelve", x.count(3), 12);
        x.tell(1, DEMAND, 8);
        due("never more", x.count(3), 12);
        x.undo();
        due("one back", x.of(1, DEMAND), 9);
        due("one back, the other stays", x.of(0, DEMAND), 14);
    }

    private static void imageBack() {
        LotPlanner x = demanding(10, 0, 20, 5);
        x.let(0, 30);
        x.let(1, 1);
        x.tell(3, ROOM, 44);
        x.hand(3, 6);
        x.feed('a');
        due("image", x.image(), 4);
        due("image leaves changes", x.count(3), 7);
        x.periods(9);
        x.tell(8, DEMAND, 3);
        x.tell(0, DEMAND, 1);
        x.let(0, 1);
        x.let(1, 0);
        x.hand(3, 1);
        x.hand(8, 2);
        x.row(0, 1);
        x.undo();
        due("back", x.back(), 4);
        int[] counts = {4, 35, 1, 0, 0, 30, 1};
        for (int w = 0; w < 7; w++) due("back: count " + w, x.count(w), counts[w]);
        due("back: demand", x.of(0, DEMAND), 10);
        due("back: room", x.of(3, ROOM), 44);
        due("back: by hand", x.hand(3, 1), 6);
        due("back leaves rows", x.get(0, 0), 0);
        due("back: undo", x.undo(), STATE);
        due("back: redo", x.redo(), STATE);
        x.tell(0, DEMAND, 2);
        due("back again", x.back(), 4);
        due("back again: demand", x.of(0, DEMAND), 10);
        due("back again: by hand", x.hand(3, 1), 6);
        x.periods(9);
        due("new ones are as at first", x.of(8, DEMAND), 0);
        due("new ones by hand, too", x.hand(8, 0), 0);
        due("a later image", x.image(), 9);
        x.periods(2);
        due("back to 9", x.back(), 9);
        due("back to 9: count", x.count(0), 9);
    }

    private static void count() {
        LotPlanner x = demanding(10, 0, 20, 5);
        x.feed('a');
        x.undo();
        int[] counts = {4, 30, 1, 3, 1, 999, 0};
        for (int w = 0; w < 7; w++) due("count " + w, x.count(w), counts[w]);
        for (int bad : new int[] {-1, 7, LEAST, MOST}) due("count bad", x.count(bad), BAD);
    }
}
