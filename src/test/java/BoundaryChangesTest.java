import java.util.function.ToLongFunction;

/** The sentences of the document that name a boundary, of changes and the image: promises 31 to 35; and of an object's calls. */
public final class BoundaryChangesTest extends Boundaries {
    public static void main(String[] args) throws ReflectiveOperationException {
        runAll(BoundaryChangesTest.class);
    }

    /** A change: one more may be undone, and none done again. */
    private static void dueChange(String call, ToLongFunction<LotPlanner> change) {
        LotPlanner x = full();
        int behind = x.count(3);
        change.applyAsLong(x);
        due("behind " + call + " may be undone", x.count(3), behind + 1);
        due("behind " + call + " may be done again", x.count(4), 0);
        due("undo of " + call, x.undo(), behind);
        due("redo of " + call, x.redo(), 0);
        x.undo();
        LotPlanner y = full();
        y.tell(0, DEMAND, 50);
        y.undo();
        for (int p = 0; p < 3; p++) for (int which = 0; which < 6; which++) due("undone " + call, x.of(p, which), y.of(p, which));
        due("undone " + call + ": store", x.count(5), y.count(5));
        due("undone " + call + ": late", x.count(6), y.count(6));
    }

    private static void dueNoChange(String call, ToLongFunction<LotPlanner> asked) {
        LotPlanner x = full();
        int behind = x.count(3);
        asked.applyAsLong(x);
        due("behind " + call + " may be undone", x.count(3), behind);
        due("behind " + call + " may be done again", x.count(4), 1);
    }

    // ---- what is a change

    static void allThatTellsNumbersIsAChange() {
        dueChange("tell", x -> x.tell(2, ROOM, 4));
        dueChange("tellAll", x -> x.tellAll(0, 2, HOLDING, 4));
        dueChange("let of the store", x -> x.let(STORE, 0));
        dueChange("let of whether late may be", x -> x.let(LATE_MAY_BE, 1));
        dueChange("read", x -> x.read() + read(x, "setup * 3;late 1 9"));
        dueChange("from", x -> x.from(1, 18, 1));
    }

    static void tellingTheSameIsAChange() {
        dueChange("tell", x -> x.tell(0, DEMAND, 7));
        dueChange("tellAll", x -> x.tellAll(0, 2, MAKING, 1));
        dueChange("let of the store", x -> x.let(STORE, 30));
        dueChange("let of whether late may be", x -> x.let(LATE_MAY_BE, 0));
        dueChange("read", x -> x.read() + read(x, "making * 1"));
        dueChange("from", x -> x.put(0, 0, 7) + x.from(0, 0, 0));
        dueChange("from of none", x -> x.from(2, 0, 0));
    }

    static void refusedCallsAndFaultsAreNoChanges() {
        dueNoChange("tell", x -> x.tell(0, DEMAND, 100));
        dueNoChange("tellAll", x -> x.tellAll(2, 1, DEMAND, 1));
        dueNoChange("let", x -> x.let(STORE, 1000));
        dueNoChange("periods", x -> x.periods(17));
        dueNoChange("read", x -> x.read());
        dueNoChange("read of a late fault", x -> x.read() + read(x, "setup * 3;late 1"));
        dueNoChange("from of nothing", x -> x.from(3, 0, 0));
        dueNoChange("from of a place below 0", x -> x.from(0, -1, 0));
        dueNoChange("from to a period that there isn't", x -> x.from(0, 0, 3));
    }

    static void whatIsByHandNAndRowsAreNoChanges() {
        dueNoChange("hand", x -> x.hand(0, 9));
        dueNoChange("handAs", x -> x.handAs(0));
        dueNoChange("row", x -> x.row(0, 9));
        dueNoChange("put", x -> x.put(0, 0, 9));
        dueNoChange("into", x -> x.into(0, 0, 0));
        dueNoChange("feed", x -> x.feed('a'));
        dueNoChange("periods as it is", x -> x.periods(3));
        dueNoChange("image", x -> x.image());
    }

    static void anotherNLeavesNoChanges() {
        for (int n : new int[] {1, 2, 4, 16}) {
            LotPlanner x = full();
            x.periods(n);
            due("behind", x.count(3), 0);
            due("ahead", x.count(4), 0);
            due("undo", x.undo(), STATE);
            due("redo", x.redo(), STATE);
            x.periods(3);
            due("undo with N as it was", x.undo(), STATE);
        }
    }

    // ---- undo, redo

    static void undoWithoutAChangeIsState() {
        LotPlanner x = new LotPlanner();
        due("undo", x.undo(), STATE);
        x.tell(0, DEMAND, 5);
        due("undo of one", x.undo(), 0);
        due("undo", x.undo(), STATE);
        due("it may still be done again", x.count(4), 1);
        due("redo", x.redo(), 0);
        due("demand", x.of(0, DEMAND), 5);
    }

    static void redoWithoutAnUndoneChangeIsState() {
        LotPlanner x = new LotPlanner();
        due("redo", x.redo(), STATE);
        x.tell(0, DEMAND, 5);
        due("redo", x.redo(), STATE);
        x.undo();
        due("redo of one", x.redo(), 0);
        due("redo", x.redo(), STATE);
        due("it may still be undone", x.count(3), 1);
        due("demand", x.of(0, DEMAND), 5);
    }

    static void undoThatIsStateChangesNothing() {
        LotPlanner x = ofPeriods(3);
        due("undo", x.undo(), STATE);
        due("redo", x.redo(), STATE);
        dueSame("undo of none", x, ofPeriods(3));
    }

    static void theLatestIsUndoneFirst() {
        LotPlanner x = new LotPlanner();
        for (int v = 1; v <= 3; v++) x.tell(0, DEMAND, v);
        for (int v = 2; v >= 0; v--) {
            due("undo", x.undo(), v);
            due("demand", x.of(0, DEMAND), v);
            due("may be done again", x.count(4), 3 - v);
        }
        for (int v = 1; v <= 3; v++) {
            due("redo", x.redo(), 3 - v);
            due("demand", x.of(0, DEMAND), v);
            due("may be undone", x.count(3), v);
        }
    }

    static void twelveChangesAreKept() {
        LotPlanner x = new LotPlanner();
        for (int v = 1; v <= 12; v++) {
            x.tell(0, DEMAND, v);
            due("count(3)", x.count(3), v);
        }
        for (int v = 11; v >= 0; v--) {
            due("undo", x.undo(), v);
            due("demand", x.of(0, DEMAND), v);
        }
        due("undo of none", x.undo(), STATE);
        due("count(4)", x.count(4), 12);
    }

    static void theThirteenthChangeMakesTheFirstForgotten() {
        LotPlanner x = new LotPlanner();
        for (int v = 1; v <= 13; v++) x.tell(0, DEMAND, v);
        due("count(3)", x.count(3), 12);
        for (int v = 12; v >= 1; v--) {
            due("undo", x.undo(), v - 1);
            due("demand", x.of(0, DEMAND), v);
        }
        due("undo of none", x.undo(), STATE);
        due("demand", x.of(0, DEMAND), 1);
        for (int v = 2; v <= 13; v++) {
            due("redo", x.redo(), 13 - v);
            due("demand", x.of(0, DEMAND), v);
        }
        due("redo of none", x.redo(), STATE);
    }

    static void farMoreThanTwelveChanges() {
        LotPlanner x = new LotPlanner();
        for (int v = 1; v <= 99; v++) x.tell(0, DEMAND, v);
        due("count(3)", x.count(3), 12);
        for (int i = 0; i < 12; i++) x.undo();
        due("demand", x.of(0, DEMAND), 87);
        due("undo of none", x.undo(), STATE);
    }

    static void twelveAtMostAfterUndoing() {
        LotPlanner x = new LotPlanner();
        for (int v = 1; v <= 12; v++) x.tell(0, DEMAND, v);
        x.undo();
        x.tell(0, DEMAND, 50);
        due("eleven and one", x.count(3), 12);
        x.tell(0, DEMAND, 51);
        due("still twelve", x.count(3), 12);
        for (int i = 0; i < 12; i++) x.undo();
        due("the first is forgotten", x.of(0, DEMAND), 1);
    }

    static void anotherChangeBehindLeavesNoneToBeDoneAgain() {
        LotPlanner x = new LotPlanner();
        x.tell(0, DEMAND, 1);
        x.tell(0, DEMAND, 2);
        x.undo();
        x.undo();
        due("ahead", x.count(4), 2);
        x.tell(1, DEMAND, 9);
        due("ahead behind a change", x.count(4), 0);
        due("redo", x.redo(), STATE);
        dueEach(x, DEMAND, 0, 9);
        due("undo", x.undo(), 0);
        dueEach(x, DEMAND, 0, 0);
        due("redo", x.redo(), 0);
        dueEach(x, DEMAND, 0, 9);
    }

    static void askingLeavesWhatMayBeDoneAgain() {
        LotPlanner x = full();
        x.least();
        x.more(0);
        x.keeps(0);
        x.touched(0, 1, 0);
        x.bounded(0);
        x.thumb();
        x.judged(0);
        x.print(0);
        due("ahead", x.count(4), 1);
        due("redo", x.redo(), 0);
        due("setup of 2", x.of(2, SETUP), 8);
    }

    static void undoBringsBackAllOfATellAll() {
        LotPlanner x = ofPeriods(3);
        tellEach(x, HOLDING, 2, 3, 4);
        x.tellAll(0, 2, HOLDING, 9);
        x.undo();
        dueEach(x, HOLDING, 2, 3, 4);
        x.redo();
        dueEach(x, HOLDING, 9, 9, 9);
    }

    static void undoLeavesWhatIsByHandRowsAndTheTape() {
        LotPlanner x = ofPeriods(2);
        x.row(0, 1);
        x.tell(0, DEMAND, 5);
        x.hand(0, 3);
        x.put(0, 0, 4);
        x.feed('a');
        x.undo();
        dueByHand(x, 3, 0);
        dueRow(x, 0, 4);
        due("bytes", x.count(2), 1);
        x.hand(0, 6);
        x.redo();
        dueByHand(x, 6, 0);
    }

    static void thePlanFollowsUndoAndRedo() {
        LotPlanner x = demanding(10, 50);
        due("least", x.least(), 160);
        due("bounded", x.bounded(-1), 160);
        x.undo();
        due("least undone", x.least(), 60);
        due("bounded undone", x.bounded(-1), 60);
        x.redo();
        due("least done again", x.least(), 160);
        due("bounded done again", x.bounded(-1), 160);
    }

    static void thePlanFollowsUndoRightBehindAChange() {
        LotPlanner x = demanding(10, 50);
        due("least", x.least(), 160);
        due("bounded", x.bounded(-1), 160);
        x.tell(1, DEMAND, 0);
        x.undo();
        due("least behind tell and undo", x.least(), 160);
        x.tell(0, DEMAND, 60);
        due("least behind another", x.least(), 210);
        due("bounded behind another", x.bounded(-1), 210);
        x.undo();
        x.redo();
        due("least behind undo and redo", x.least(), 210);
        x.undo();
        due("least behind undo", x.least(), 160);
        due("bounded behind undo", x.bounded(-1), 160);
    }

    private static void changeBy(LotPlanner x, int way) {
        switch (way) {
            case 0 -> x.tell(1, DEMAND, 60);
            case 1 -> x.tellAll(0, 1, SETUP, 20);
            case 2 -> x.let(STORE, 0);
            case 3 -> x.let(LATE_MAY_BE, 1);
            case 4 -> x.undo();
            case 5 -> x.redo();
            case 6 -> x.back();
            case 7 -> x.from(0, 0, 0);
            case 8 -> x.periods(1);
            default -> x.read();
        }
    }

    private static LotPlanner toBeChanged() {
        LotPlanner x = demanding(10, 30);
        x.image();
        x.row(0, 1);
        x.put(0, 0, 25);
        x.tell(1, DEMAND, 49);
        x.tell(0, HOLDING, 2);
        x.undo();
        feed(x, "demand 0 7");
        return x;
    }

    static void thePlanFollowsAnyTwoChanges() {
        for (int first = 0; first < 10; first++) {
            for (int second = 0; second < 10; second++) {
                LotPlanner x = toBeChanged();
                LotPlanner y = toBeChanged();
                due("least ahead", x.least(), 158);
                due("bounded ahead", x.bounded(-1), 158);
                changeBy(x, first);
                changeBy(x, second);
                changeBy(y, first);
                changeBy(y, second);
                // y wasn't asked ahead of the changes
                dueSame("the changes " + first + " and " + second, x, y);
            }
        }
    }

    static void redoThatIsStateChangesNothing() {
        LotPlanner x = ofPeriods(3);
        x.tell(0, DEMAND, 4);
        LotPlanner y = ofPeriods(3);
        y.tell(0, DEMAND, 4);
        due("redo", x.redo(), STATE);
        dueSame("redo of none", x, y);
    }

    static void undoneAndDoneAgainWithStoreAndLate() {
        LotPlanner x = ofPeriods(1);
        x.let(STORE, 0);
        x.let(LATE_MAY_BE, 1);
        due("undo", x.undo(), 1);
        due("late", x.count(6), 0);
        due("store", x.count(5), 0);
        due("undo", x.undo(), 0);
        due("store", x.count(5), 999);
        due("redo", x.redo(), 1);
        due("store", x.count(5), 0);
        due("redo", x.redo(), 0);
        due("late", x.count(6), 1);
    }

    // ---- the image

    static void backWithoutAnImageIsState() {
        LotPlanner x = ofPeriods(3);
        x.tell(0, DEMAND, 5);
        x.tell(0, DEMAND, 6);
        x.undo();
        due("back", x.back(), STATE);
        due("changes stay", x.count(3), 1);
        due("those ahead stay", x.count(4), 1);
        due("demand stays", x.of(0, DEMAND), 5);
        due("N stays", x.count(0), 3);
    }

    static void anImageKeepsAllThatIsTold() {
        LotPlanner x = ofPeriods(4);
        for (int which = 0; which < 6; which++) x.tell(3, which, 20 + which);
        x.let(STORE, 17);
        x.let(LATE_MAY_BE, 1);
        handEach(x, 1, 2, 3, 4);
        due("image", x.image(), 4);
        for (int which = 0; which < 6; which++) x.tellAll(0, 3, which, 9);
        x.let(STORE, 3);
        x.let(LATE_MAY_BE, 0);
        x.handAs(2);
        x.periods(2);
        due("back", x.back(), 4);
        due("N", x.count(0), 4);
        for (int which = 0; which < 6; which++) due("of(3, " + which + ")", x.of(3, which), 20 + which);
        due("setup of 0", x.of(0, SETUP), 50);
        due("store", x.count(5), 17);
        due("late", x.count(6), 1);
        dueByHand(x, 1, 2, 3, 4);
    }

    static void anImageOfOneAndOfSixteenPeriods() {
        LotPlanner x = ofPeriods(1);
        x.tell(0, DEMAND, 4);
        due("image of 1", x.image(), 1);
        x.periods(16);
        x.tell(15, DEMAND, 5);
        x.hand(15, 6);
        due("back to 1", x.back(), 1);
        due("all demands", x.count(1), 4);
        due("stock by hand", x.judged(2), -4);
        x.periods(16);
        due("as at first", x.of(15, DEMAND), 0);
        due("by hand as at first", x.hand(15, 0), 0);
        x.tell(15, DEMAND, 5);
        x.hand(15, 6);
        due("image of 16", x.image(), 16);
        x.periods(1);
        due("back to 16", x.back(), 16);
        due("demand of 15", x.of(15, DEMAND), 5);
        due("by hand in 15", x.hand(15, 6), 6);
    }

    static void backLeavesNoChanges() {
        LotPlanner x = full();
        due("behind", x.count(3) > 0 ? 1 : 0, 1);
        due("ahead", x.count(4), 1);
        due("back", x.back(), 3);
        due("count(3)", x.count(3), 0);
        due("count(4)", x.count(4), 0);
        due("undo", x.undo(), STATE);
        due("redo", x.redo(), STATE);
    }

    static void imageChangesNothingElse() {
        LotPlanner x = full();
        due("image", x.image(), 3);
        due("behind", x.count(3), full().count(3));
        due("ahead", x.count(4), 1);
        due("bytes", x.count(2), 2);
        dueByHand(x, 5, 0, 6);
    }

    static void backMayBeCalledAgain() {
        LotPlanner x = full();
        x.back();
        x.tell(0, DEMAND, 33);
        x.hand(0, 9);
        due("back again", x.back(), 3);
        due("demand", x.of(0, DEMAND), 7);
        dueByHand(x, 5, 0, 0);
    }

    static void aLaterImageIsKeptInsteadOfTheOneAhead() {
        LotPlanner x = new LotPlanner();
        x.tell(0, DEMAND, 1);
        x.image();
        x.tell(0, DEMAND, 2);
        x.image();
        x.tell(0, DEMAND, 3);
        x.back();
        due("demand", x.of(0, DEMAND), 2);
    }

    static void backLeavesRowsAndTheTape() {
        LotPlanner x = full();
        x.row(3, 1);
        x.put(3, 0, 44);
        x.back();
        due("row", x.get(3, 0), 44);
        due("bytes", x.count(2), 2);
    }

    static void thePlanFollowsBack() {
        LotPlanner x = demanding(10, 50);
        x.image();
        x.tellAll(0, 1, DEMAND, 0);
        due("least", x.least(), 0);
        x.back();
        due("least behind back", x.least(), 160);
        due("bounded behind back", x.bounded(-1), 160);
    }

    // ---- count

    static void countOfWhatThereIsntIsBad() {
        for (int what : new int[] {-1, 7, LEAST, MOST}) dueRefused("count(" + what + ")", x -> x.count(what), BAD);
    }

    static void countAtItsLeastAndItsMost() {
        LotPlanner x = ofPeriods(1);
        x.let(STORE, 0);
        x.undo();
        x.periods(16);
        int[] least = {16, 0, 0, 0, 0, 999, 0};
        for (int what = 0; what < 7; what++) due("count(" + what + ")", x.count(what), least[what]);
        for (int i = 0; i < 120; i++) x.feed('a');
        for (int i = 0; i < 12; i++) x.tellAll(0, 15, DEMAND, 99);
        x.let(LATE_MAY_BE, 1);
        int[] most = {16, 1584, 120, 12, 0, 999, 1};
        for (int what = 0; what < 7; what++) due("count(" + what + ")", x.count(what), most[what]);
        for (int i = 0; i < 12; i++) x.undo();
        due("count(4)", x.count(4), 12);
    }

    static void countOfDemandsIsOfPeriodsThatThereAre() {
        LotPlanner x = demanding(1, 2, 4);
        due("three", x.count(1), 7);
        x.periods(2);
        due("two", x.count(1), 3);
        x.periods(3);
        due("three again", x.count(1), 3);
    }

    static void countChangesNothing() {
        for (int w = 0; w < 7; w++) {
            int what = w;
            dueNothingChanged("count(" + what + ")", x -> x.count(what));
        }
    }

    // ---- the calls of an object

    static void call512IsAnsweredAsDue() {
        LotPlanner x = new LotPlanner();
        for (int call = 1; call <= 511; call++) x.tell(0, DEMAND, call % 90 + 1);
        due("the 512th call", x.least(), 50 + 511 % 90 + 1);
    }

    static void asking512TimesIsAnsweredAsDue() {
        LotPlanner x = demanding(10, 60, 0, 20);
        for (int call = 6; call <= 509; call += 4) {
            due("least", x.least(), 230);
            // 180 and its setup, against 250 with 70 made in 0
            due("keeps(1)", x.keeps(1), 70);
            due("bounded(-1)", x.bounded(-1), 230);
            due("thumb", x.thumb(), 300);
        }
    }

    static void objectsAreApart() {
        LotPlanner x = full();
        LotPlanner y = new LotPlanner();
        y.tellAll(0, 7, DEMAND, 9);
        y.row(0, 1);
        y.handAs(0);
        y.image();
        dueSame("calls of another", x, full());
        due("the other", y.count(1), 72);
    }

    static void askingThePlanChangesNothing() {
        dueNothingChanged("least()", x -> x.least());
        dueNothingChanged("lot(0, 4)", x -> x.lot(0, 4));
        dueNothingChanged("lot(-2, 0)", x -> x.lot(-2, 0));
        dueNothingChanged("by(2, 1)", x -> x.by(2, 1));
        dueNothingChanged("forward(2, 1)", x -> x.forward(2, 1));
        dueNothingChanged("calm()", x -> x.calm());
        dueNothingChanged("part(1, 2)", x -> x.part(1, 2));
        dueNothingChanged("part(1, 1)", x -> x.part(1, 1));
        dueNothingChanged("ways()", x -> x.ways());
    }
}
