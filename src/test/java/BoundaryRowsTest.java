/** The sentences of the document that name a boundary, of rows on shelves: promises 26 to 30. */
public final class BoundaryRowsTest extends Boundaries {
    public static void main(String[] args) throws ReflectiveOperationException {
        runAll(BoundaryRowsTest.class);
    }

    private static LotPlanner withRow(long... values) {
        LotPlanner x = new LotPlanner();
        x.row(0, values.length);
        for (int i = 0; i < values.length; i++) x.put(0, i, values[i]);
        return x;
    }

    // ---- shelves and rows

    static void shelvesHoldNothingAtFirst() {
        LotPlanner x = new LotPlanner();
        for (int shelf = 0; shelf < 4; shelf++) {
            due("get", x.get(shelf, 0), Long.MIN_VALUE);
            due("put", x.put(shelf, 0, 1), NOTHING);
            due("from", x.from(shelf, 0, 0), NOTHING);
            due("into", x.into(shelf, 0, 0), NOTHING);
        }
    }

    static void shelvesAre0To3() {
        LotPlanner x = new LotPlanner();
        for (int shelf = 0; shelf < 4; shelf++) {
            due("row on " + shelf, x.row(shelf, 2), 1);
            due("put on " + shelf, x.put(shelf, 1, 7), 1);
            due("get on " + shelf, x.get(shelf, 1), 7);
            due("from " + shelf, x.from(shelf, 1, 0), 1);
            due("into " + shelf, x.into(shelf, 1, 0), 1);
        }
    }

    static void aShelfThatThereIsntIsBad() {
        for (int shelf : new int[] {-1, 4, LEAST, MOST}) {
            dueRefused("row(" + shelf + ", 1)", x -> x.row(shelf, 1), BAD);
            dueRefused("put(" + shelf + ", 0, 1)", x -> x.put(shelf, 0, 1), BAD);
            dueRefused("get(" + shelf + ", 0)", x -> x.get(shelf, 0), Long.MIN_VALUE);
            dueRefused("from(" + shelf + ", 0, 0)", x -> x.from(shelf, 0, 0), BAD);
            dueRefused("into(" + shelf + ", 0, 0)", x -> x.into(shelf, 0, 0), BAD);
        }
    }

    static void aRowMayHave20Places() {
        LotPlanner x = new LotPlanner();
        for (int shelf = 0; shelf < 4; shelf++) {
            due("row", x.row(shelf, 20), 1);
            due("put in the last place", x.put(shelf, 19, 7 + shelf), 1);
            due("put in the first place", x.put(shelf, 0, 1 + shelf), 1);
        }
        for (int shelf = 0; shelf < 4; shelf++) {
            due("the last place", x.get(shelf, 19), 7 + shelf);
            due("the first place", x.get(shelf, 0), 1 + shelf);
        }
    }

    static void aRowOf21PlacesIsBad() {
        for (int n : new int[] {21, 22, MOST}) dueRefused("row(0, " + n + ")", x -> x.row(0, n), BAD);
        due("row(3, 21) on an empty shelf", full().row(3, 21), BAD);
    }

    static void aRowOfASizeBelow0IsSize() {
        for (int n : new int[] {-1, -2, LEAST}) dueRefused("row(0, " + n + ")", x -> x.row(0, n), SIZE);
        LotPlanner x = new LotPlanner();
        due("row(3, -1) on an empty shelf", x.row(3, -1), SIZE);
        due("it still holds nothing", x.put(3, 0, 1), NOTHING);
    }

    static void aShelfThatThereIsntGoesAheadOfSize() {
        due("row(4, -1)", full().row(4, -1), BAD);
        due("row(-1, -1)", full().row(-1, -1), BAD);
    }

    static void aRowOf0PlacesIsNotNothing() {
        LotPlanner x = new LotPlanner();
        due("row(0, 0)", x.row(0, 0), 1);
        due("get", x.get(0, 0), Long.MIN_VALUE);
        due("put", x.put(0, 0, 1), PLACE);
        due("from", x.from(0, 0, 0), 0);
        due("into", x.into(0, 0, 0), 0);
    }

    static void aRowOf1Place() {
        LotPlanner x = new LotPlanner();
        due("row(0, 1)", x.row(0, 1), 1);
        due("get(0, 0)", x.get(0, 0), 0);
        due("put(0, 0)", x.put(0, 0, 3), 1);
        due("put(0, 1)", x.put(0, 1, 3), PLACE);
        dueRow(x, 0, 3);
    }

    static void aRowIs0AtFirst() {
        LotPlanner x = new LotPlanner();
        x.row(2, 20);
        dueRow(x, 2, new long[20]);
    }

    static void aRowAnewIs0Again() {
        LotPlanner x = withRow(4, 5, 6);
        due("row of the same size", x.row(0, 3), 1);
        dueRow(x, 0, 0, 0, 0);
        x.put(0, 2, 6);
        x.row(0, 1);
        x.row(0, 4);
        dueRow(x, 0, 0, 0, 0, 0);
    }

    static void aPlaceThatThereIsntIsPlace() {
        for (int i : new int[] {-1, 3, 19, LEAST, MOST}) {
            dueRefused("put(0, " + i + ", 1) of 3", x -> x.put(0, i, 1), PLACE);
            dueRefused("get(0, " + i + ") of 3", x -> x.get(0, i), Long.MIN_VALUE);
        }
        dueRefused("put(1, 20, 1) of 20", x -> x.put(1, 20, 1), PLACE);
        dueRefused("get(1, 20) of 20", x -> x.get(1, 20), Long.MIN_VALUE);
        dueRefused("get(3, 0) of nothing", x -> x.get(3, 0), Long.MIN_VALUE);
    }

    static void nothingGoesAheadOfPlace() {
        dueRefused("put(3, -1, 1)", x -> x.put(3, -1, 1), NOTHING);
        dueRefused("put(3, 20, 1)", x -> x.put(3, 20, 1), NOTHING);
        dueRefused("from(3, -1, 0)", x -> x.from(3, -1, 0), NOTHING);
        dueRefused("into(3, -1, 0)", x -> x.into(3, -1, 0), NOTHING);
    }

    static void anyLongMayBePut() {
        LotPlanner x = new LotPlanner();
        x.row(0, 4);
        long[] values = {Long.MAX_VALUE, Long.MIN_VALUE, -1, 1L << 32};
        for (int i = 0; i < 4; i++) due("put " + values[i], x.put(0, i, values[i]), 1);
        dueRow(x, 0, values);
    }

    static void putLeavesOtherPlacesAndShelves() {
        LotPlanner x = withRow(1, 2, 3);
        x.row(1, 20);
        x.put(0, 1, 9);
        dueRow(x, 0, 1, 9, 3);
        dueRow(x, 1, new long[20]);
    }

    static void aRowAnewLeavesOtherShelves() {
        LotPlanner x = new LotPlanner();
        for (int shelf = 3; shelf >= 0; shelf--) {
            x.row(shelf, 20);
            x.put(shelf, 0, 10 + shelf);
            x.put(shelf, 19, 20 + shelf);
        }
        x.row(1, 20);
        for (int shelf : new int[] {0, 2, 3}) {
            due("the first place of " + shelf, x.get(shelf, 0), 10 + shelf);
            due("the last place of " + shelf, x.get(shelf, 19), 20 + shelf);
        }
        dueRow(x, 1, new long[20]);
        x.row(2, 0);
        due("the last place of 1", x.put(1, 19, 5), 1);
        due("the first place of 3", x.get(3, 0), 13);
        due("the first place of 2", x.get(2, 0), Long.MIN_VALUE);
    }

    static void rowsStayWithAnotherN() {
        LotPlanner x = withRow(4, 5, 6);
        x.periods(1);
        dueRow(x, 0, 4, 5, 6);
        x.periods(16);
        dueRow(x, 0, 4, 5, 6);
    }

    static void aShelfThatThereIsntGoesAheadOfPlace() {
        due("put(4, -1, 1)", full().put(4, -1, 1), BAD);
        due("put(-1, 20, 1)", full().put(-1, 20, 1), BAD);
        due("into(-1, -1, 0)", full().into(-1, -1, 0), BAD);
        due("from(-1, -1, 0)", full().from(-1, -1, 0), BAD);
    }

    static void rowsAreNoChanges() {
        LotPlanner x = full();
        x.row(0, 2);
        x.put(0, 0, 4);
        x.into(0, 0, 0);
        due("behind", x.count(3), full().count(3));
        due("ahead", x.count(4), 1);
        // 20 are made in 0 ahead of both
        x.undo();
        x.back();
        due("rows stay", x.get(0, 0), 20);
    }

    // ---- from

    static void fromUntilTheRowEnds() {
        LotPlanner x = withRow(1, 2, 3);
        x.tellAll(0, 7, DEMAND, 9);
        due("from(0, 0, 0)", x.from(0, 0, 0), 3);
        dueEach(x, DEMAND, 1, 2, 3, 9, 9, 9, 9, 9);
    }

    static void fromUntilPeriodsEnd() {
        LotPlanner x = withRow(1, 2, 3);
        due("from(0, 0, 6)", x.from(0, 0, 6), 2);
        dueEach(x, DEMAND, 0, 0, 0, 0, 0, 0, 1, 2);
        LotPlanner y = withRow(new long[20]);
        y.periods(16);
        due("from of 20 into 16", y.from(0, 0, 0), 16);
    }

    static void fromUntilPeriodsAndTheRowEndTogether() {
        LotPlanner x = withRow(1, 2, 3);
        due("from(0, 0, 5)", x.from(0, 0, 5), 3);
        dueEach(x, DEMAND, 0, 0, 0, 0, 0, 1, 2, 3);
    }

    static void fromTakes0And99() {
        LotPlanner x = withRow(0, 99, 0);
        x.tellAll(0, 7, DEMAND, 9);
        due("from", x.from(0, 0, 0), 3);
        dueEach(x, DEMAND, 0, 99, 0, 9);
    }

    static void fromEndsAheadOf100() {
        LotPlanner x = withRow(1, 100, 3);
        x.tellAll(0, 7, DEMAND, 9);
        due("from", x.from(0, 0, 0), 1);
        dueEach(x, DEMAND, 1, 9, 9);
    }

    static void fromEndsAheadOfMinus1() {
        LotPlanner x = withRow(1, -1, 3);
        x.tellAll(0, 7, DEMAND, 9);
        due("from", x.from(0, 0, 0), 1);
        dueEach(x, DEMAND, 1, 9, 9);
    }

    static void fromLooksAtWholeLongs() {
        for (long v : new long[] {1L << 32, (1L << 32) + 5, Long.MIN_VALUE, Long.MAX_VALUE, -(1L << 32)}) {
            LotPlanner x = withRow(v);
            due("from a row of " + v, x.from(0, 0, 0), 0);
            dueEach(x, DEMAND, 0);
        }
    }

    static void fromTheLastPlace() {
        LotPlanner x = withRow(1, 2, 3);
        due("from(0, 2, 1)", x.from(0, 2, 1), 1);
        dueEach(x, DEMAND, 0, 3, 0);
    }

    static void fromToTheLastPeriod() {
        LotPlanner x = withRow(1, 2, 3);
        due("from(0, 1, 7)", x.from(0, 1, 7), 1);
        dueEach(x, DEMAND, 0, 0, 0, 0, 0, 0, 0, 2);
    }

    private static void dueFromOf0(LotPlanner x, int i) {
        int behind = x.count(3);
        due("from(0, " + i + ", 0)", x.from(0, i, 0), 0);
        due("changes", x.count(3), behind + 1);
        dueEach(x, DEMAND, 0, 0, 0);
        due("undo", x.undo(), behind);
    }

    static void fromTheEndOfTheRowIs0AndAChange() {
        dueFromOf0(withRow(1, 2, 3), 3);
    }

    static void fromBehindTheEndOfTheRowIs0AndAChange() {
        dueFromOf0(withRow(1, 2, 3), 4);
        dueFromOf0(withRow(1, 2, 3), 20);
        dueFromOf0(withRow(1, 2, 3), MOST);
    }

    static void fromAnEmptyRowIs0AndAChange() {
        dueFromOf0(withRow(), 0);
    }

    static void fromOneThatMayNotBeIs0AndAChange() {
        dueFromOf0(withRow(100, 2), 0);
    }

    static void fromIsOneChangeHoweverMany() {
        LotPlanner x = withRow(1, 2, 3);
        x.from(0, 0, 0);
        due("changes", x.count(3), 1);
        x.undo();
        dueEach(x, DEMAND, 0, 0, 0);
    }

    static void fromAPlaceBelow0IsPlace() {
        dueRefused("from(0, -1, 0)", x -> x.from(0, -1, 0), PLACE);
        dueRefused("from(0, least, 0)", x -> x.from(0, LEAST, 0), PLACE);
    }

    static void fromToAPeriodThatThereIsntIsBad() {
        for (int p : new int[] {-1, 3, LEAST, MOST}) dueRefused("from(0, 0, " + p + ")", x -> x.from(0, 0, p), BAD);
    }

    static void fromBadGoesAheadOfNothingAndPlace() {
        due("from(3, 0, 3)", full().from(3, 0, 3), BAD);
        due("from(0, -1, 3)", full().from(0, -1, 3), BAD);
        due("from(4, -1, 0)", full().from(4, -1, 0), BAD);
    }

    static void fromOfNothingChangesNothing() {
        dueRefused("from(3, 0, 0)", x -> x.from(3, 0, 0), NOTHING);
    }

    static void fromLeavesTheRow() {
        LotPlanner x = withRow(1, 2, 300);
        x.from(0, 0, 0);
        dueRow(x, 0, 1, 2, 300);
    }

    // ---- into

    private static LotPlanner planned(int places) {
        LotPlanner x = demanding(10, 0, 20, 5);
        x.row(0, places);
        for (int i = 0; i < places; i++) x.put(0, i, -7);
        return x;
    }

    static void intoUntilPlacesEnd() {
        LotPlanner x = planned(3);
        due("into(0, 0, 0)", x.into(0, 0, 0), 3);
        dueRow(x, 0, 10, 0, 25);
    }

    static void intoUntilPeriodsEnd() {
        LotPlanner x = planned(6);
        due("into(0, 1, 0)", x.into(0, 1, 0), 4);
        dueRow(x, 0, -7, 10, 0, 25, 0, -7);
    }

    static void intoUntilPlacesAndPeriodsEndTogether() {
        LotPlanner x = planned(4);
        due("into(0, 0, 1)", x.into(0, 0, 1), 4);
        dueRow(x, 0, 0, 0, 5, 0);
    }

    static void intoOfForwardBeginsWith1AndEndsWithN() {
        LotPlanner x = planned(5);
        due("into(0, 0, 2)", x.into(0, 0, 2), 4);
        dueRow(x, 0, 60, 60, 120, 140, -7);
    }

    static void intoOfSixteenPeriods() {
        LotPlanner x = ofPeriods(16);
        x.tell(15, DEMAND, 3);
        x.row(0, 20);
        due("into(0, 4, 2)", x.into(0, 4, 2), 16);
        due("forward(15)", x.get(0, 18), 0);
        due("forward(16)", x.get(0, 19), 53);
        due("into(0, 0, 0)", x.into(0, 0, 0), 16);
        due("made in 15", x.get(0, 15), 3);
        due("behind it", x.get(0, 16), 0);
    }

    static void intoOfStockMayBeBelow0() {
        LotPlanner x = demanding(5, 0);
        x.tell(0, SETUP, 999);
        x.let(LATE_MAY_BE, 1);
        x.row(0, 2);
        due("into(0, 0, 1)", x.into(0, 0, 1), 2);
        dueRow(x, 0, -5, 0);
    }

    static void intoTheLastPlace() {
        LotPlanner x = planned(3);
        due("into(0, 2, 0)", x.into(0, 2, 0), 1);
        dueRow(x, 0, -7, -7, 10);
    }

    static void intoTheEndOfTheRowIs0() {
        LotPlanner x = planned(3);
        due("into(0, 3, 0)", x.into(0, 3, 0), 0);
        dueRow(x, 0, -7, -7, -7);
    }

    static void intoBehindTheEndOfTheRowIs0() {
        LotPlanner x = planned(3);
        for (int i : new int[] {4, 20, MOST}) due("into(0, " + i + ", 0)", x.into(0, i, 0), 0);
        dueRow(x, 0, -7, -7, -7);
    }

    static void intoAnEmptyRowIs0() {
        due("into(0, 0, 0)", planned(0).into(0, 0, 0), 0);
    }

    static void intoAPlaceBelow0IsPlace() {
        dueRefused("into(0, -1, 0)", x -> x.into(0, -1, 0), PLACE);
        dueRefused("into(0, least, 0)", x -> x.into(0, LEAST, 0), PLACE);
    }

    static void intoOfWhatThereIsntIsBad() {
        for (int what : new int[] {-1, 3, LEAST, MOST}) dueRefused("into(0, 0, " + what + ")", x -> x.into(0, 0, what), BAD);
    }

    static void intoBadGoesAheadOfNothingAndPlace() {
        due("into(3, 0, 3)", full().into(3, 0, 3), BAD);
        due("into(0, -1, 3)", full().into(0, -1, 3), BAD);
        due("into(4, -1, 0)", full().into(4, -1, 0), BAD);
    }

    static void intoOfNothingChangesNothing() {
        dueRefused("into(3, 0, 0)", x -> x.into(3, 0, 0), NOTHING);
        due("it still holds nothing", full().get(3, 0), Long.MIN_VALUE);
    }

    static void intoIsNoChange() {
        LotPlanner x = full();
        due("into(1, 0, 2)", x.into(1, 0, 2), 3);
        due("behind", x.count(3), full().count(3));
        due("ahead", x.count(4), 1);
    }
}
