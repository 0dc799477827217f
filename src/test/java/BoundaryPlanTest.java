/** The sentences of the document that name a boundary, of lots and plans: promises 9 to 15. */
public final class BoundaryPlanTest extends Boundaries {
    public static void main(String[] args) throws ReflectiveOperationException {
        runAll(BoundaryPlanTest.class);
    }

    // ---- a lot

    static void aLotHasDemandInAtLeastOnePeriod() {
        // 0-0@0 and 0-1@0; 1-1 is no lot
        LotPlanner x = demandingForNothing(1, 0);
        due("ways", x.ways(), 2);
        x.let(LATE_MAY_BE, 1);
        // and 0-1@1
        due("ways with late", x.ways(), 3);
    }

    static void aLotMayHaveOnePeriod() {
        LotPlanner x = demanding(7);
        duePlan(x, "0-0@0:7");
        due("cost", x.lot(0, 4), 57);
    }

    static void aLotMayHaveOnePiece() {
        LotPlanner x = demanding(9, 1);
        x.tell(0, HOLDING, 99);
        duePlan(x, "0-0@0:9,1-1@1:1");
        due("cost", x.lot(1, 4), 51);
        due("made", x.by(1, 0), 1);
        LotPlanner y = demanding(1);
        duePlan(y, "0-0@0:1");
        due("least", y.least(), 51);
        due("forward(1, 0)", y.forward(1, 0), 51);
        due("forward(1, 1)", y.forward(1, 1), 0);
        due("part(0, 1)", y.part(0, 1), 51);
    }

    static void aLotMayHaveAllPeriods() {
        LotPlanner x = ofPeriods(16);
        x.tellAll(0, 15, HOLDING, 0);
        x.tellAll(0, 15, DEMAND, 1);
        duePlan(x, "0-15@0:16");
        due("cost", x.least(), 66);
    }

    static void withoutLateALotMayBeMadeInItsFirstPeriodWithDemand() {
        LotPlanner x = demanding(0, 7, 0);
        tellEach(x, SETUP, 50, 0, 0);
        duePlan(x, "0-1@1:7");
        due("cost", x.least(), 7);
    }

    static void withoutLateALotMayNotBeMadeBehindItsFirstPeriodWithDemand() {
        LotPlanner x = demanding(0, 7, 0);
        tellEach(x, SETUP, 50, 50, 0);
        duePlan(x, "0-1@1:7");
        due("cost", x.least(), 57);
    }

    static void withLateALotMayBeMadeInItsLastPeriod() {
        LotPlanner x = demanding(0, 7, 0);
        tellEach(x, SETUP, 50, 50, 0);
        x.let(LATE_MAY_BE, 1);
        // 7 late by one period of 5 each
        duePlan(x, "0-2@2:7");
        due("cost", x.least(), 42);
    }

    static void aLotIsMadeInAPeriodOfIts() {
        LotPlanner x = demanding(5, 0);
        tellEach(x, SETUP, 999, 0);
        x.let(LATE_MAY_BE, 1);
        // 0-0 can't be made in 1
        duePlan(x, "0-1@1:5");
        due("cost", x.least(), 30);
    }

    static void aLotMayBeMadeAheadOfItsDemand() {
        LotPlanner x = demanding(0, 0, 7);
        tellEach(x, SETUP, 1, 999, 999);
        duePlan(x, "0-2@0:7");
        due("cost", x.least(), 1 + 7 + 14);
    }

    private static LotPlanner madeIn1() {
        LotPlanner x = demanding(0, 0, 4, 0, 3);
        tellEach(x, SETUP, 999, 10, 999, 999, 999);
        tellEach(x, HOLDING, 1, 2, 3, 4, 5);
        x.tellAll(0, 4, MAKING, 0);
        return x;
    }

    static void holdingGoesFromWhereALotIsMadeToAheadOfItsLastPeriod() {
        LotPlanner x = madeIn1();
        // 2 of 7, 3 of 3, 4 of 3
        due("cost", x.lot(0, 4), 10 + 14 + 9 + 12);
        x.tell(1, HOLDING, 3);
        due("holding of the period it is made in counts", x.lot(0, 4), 52);
        x.tell(3, HOLDING, 5);
        due("holding of the last but one counts", x.lot(0, 4), 55);
    }

    static void holdingOutsideDoesntCount() {
        LotPlanner x = madeIn1();
        x.tell(0, HOLDING, 99);
        x.tell(4, HOLDING, 99);
        due("made in", x.lot(0, 2), 1);
        due("cost", x.lot(0, 4), 45);
    }

    static void holdingIsOfPiecesDemandedBehindThePeriodAlone() {
        LotPlanner x = demanding(9, 1);
        x.tell(1, SETUP, 999);
        x.tell(0, HOLDING, 10);
        due("one is held", x.lot(0, 4), 50 + 10 + 10);
    }

    private static LotPlanner madeIn3() {
        LotPlanner x = demanding(4, 0, 3, 0, 2);
        x.let(LATE_MAY_BE, 1);
        tellEach(x, SETUP, 999, 999, 999, 10, 999);
        tellEach(x, LATE, 1, 2, 3, 4, 5);
        x.tellAll(0, 4, MAKING, 0);
        x.tellAll(0, 4, HOLDING, 6);
        return x;
    }

    static void lateGoesFromTheFirstPeriodOfALotToAheadOfWhereItIsMade() {
        LotPlanner x = madeIn3();
        // 1 of 4, 2 of 4, 3 of 7 late; 6 of 2 held
        due("cost", x.lot(0, 4), 10 + 4 + 8 + 21 + 12);
        x.tell(0, LATE, 2);
        due("late of the first period counts", x.lot(0, 4), 59);
        x.tell(2, LATE, 4);
        due("late of the one ahead of where it is made counts", x.lot(0, 4), 66);
    }

    static void lateOutsideDoesntCount() {
        LotPlanner x = madeIn3();
        x.tell(3, LATE, 99);
        x.tell(4, LATE, 99);
        x.tell(0, HOLDING, 99);
        x.tell(2, HOLDING, 99);
        x.tell(4, HOLDING, 99);
        due("made in", x.lot(0, 2), 3);
        due("cost", x.lot(0, 4), 55);
    }

    static void setupAndMakingAreThoseOfWhereALotIsMade() {
        LotPlanner x = demanding(0, 3, 4);
        tellEach(x, SETUP, 500, 20, 500);
        tellEach(x, MAKING, 50, 2, 50);
        due("made in", x.lot(0, 2), 1);
        due("cost", x.lot(0, 4), 20 + 14 + 4);
    }

    // ---- a plan

    static void theFirstLotBeginsWithPeriod0() {
        LotPlanner x = demanding(0, 0, 5);
        due("a", x.lot(0, 0), 0);
        due("m", x.lot(0, 2), 2);
    }

    static void eachLotBeginsRightBehindTheOneAhead() {
        LotPlanner x = demanding(50, 0, 0, 60);
        duePlan(x, "0-0@0:50,1-3@3:60");
    }

    static void behindTheLastLotThereMayBePeriodsWithoutDemand() {
        LotPlanner x = demanding(10, 0, 0);
        due("lots", x.lot(-1, 0), 1);
        due("b", x.lot(0, 1), 0);
        // 0-0, 0-1, 0-2
        due("ways", x.ways(), 3);
    }

    static void behindTheLastLotThereIsNoDemand() {
        LotPlanner x = demanding(10, 0, 1);
        due("b of the last lot", x.lot(x.lot(-1, 0) - 1, 1), 2);
        due("pieces", x.lot(0, 3), 11);
    }

    static void withoutDemandNoLotIsWanted() {
        LotPlanner x = demanding(0, 0, 0);
        due("least", x.least(), 0);
        due("lots", x.lot(-1, 0), 0);
        due("lot 0", x.lot(0, 0), NOT);
        due("ways", x.ways(), 1);
        due("made", x.by(0, 0), 0);
        due("stock", x.by(2, 1), 0);
    }

    static void theLeastCostGoesAheadOfWhatEndsFirst() {
        LotPlanner x = demanding(10, 50);
        duePlan(x, "0-0@0:10,1-1@1:50");
        x.tell(1, DEMAND, 49);
        duePlan(x, "0-1@0:59");
    }

    static void ofSeveralThatWhoseFirstLotEndsFirst() {
        // 160 as one and as two
        LotPlanner x = demanding(10, 50);
        due("least", x.least(), 160);
        due("ways", x.ways(), 2);
        duePlan(x, "0-0@0:10,1-1@1:50");
    }

    static void ofSeveralOfTheseThatWhoseFirstLotIsMadeFirst() {
        LotPlanner x = demanding(0, 0, 7);
        x.tellAll(0, 2, HOLDING, 0);
        due("ways", x.ways(), 3);
        duePlan(x, "0-2@0:7");
        x.tell(0, SETUP, 51);
        duePlan(x, "0-2@1:7");
    }

    static void whatEndsFirstGoesAheadOfWhatIsMadeFirst() {
        // 0-1@1 and 2-2@2: 31 and 14; 0-2@0: 45; the others are dearer
        LotPlanner x = demanding(0, 7, 7);
        tellEach(x, SETUP, 45, 10, 14);
        tellEach(x, MAKING, 0, 3, 0);
        x.tellAll(0, 2, HOLDING, 0);
        due("least", x.least(), 45);
        due("ways", x.ways(), 2);
        duePlan(x, "0-1@1:7,2-2@2:7");
    }

    static void thenByTheSecondLotThatEndsFirst() {
        // behind the first: 160 as one and as two
        LotPlanner x = demanding(9, 10, 50);
        x.tell(0, HOLDING, 99);
        due("ways", x.ways(), 2);
        duePlan(x, "0-0@0:9,1-1@1:10,2-2@2:50");
    }

    static void thenByTheSecondLotThatIsMadeFirst() {
        LotPlanner x = demanding(9, 0, 7);
        x.tell(0, HOLDING, 99);
        x.tell(1, HOLDING, 0);
        duePlan(x, "0-0@0:9,1-2@1:7");
    }

    static void thenByTheThirdLotAndSoOn() {
        LotPlanner x = demanding(9, 9, 0, 7, 0);
        tellEach(x, HOLDING, 99, 99, 0, 0, 0);
        duePlan(x, "0-0@0:9,1-1@1:9,2-3@2:7");
    }

    static void withLateAlsoWhatIsMadeFirst() {
        LotPlanner x = demandingForNothing(0, 7, 0, 0);
        x.let(LATE_MAY_BE, 1);
        duePlan(x, "0-1@0:7");
        x.tell(0, SETUP, 1);
        duePlan(x, "0-1@1:7");
        x.tell(1, SETUP, 1);
        duePlan(x, "0-2@2:7");
    }

    static void roomAndStoreDontMatterToThePlan() {
        LotPlanner x = demanding(10, 20, 5);
        int least = x.least();
        x.tellAll(0, 2, ROOM, 0);
        x.let(STORE, 0);
        due("least", x.least(), least);
        due("made in 0", x.by(0, 0), 35);
        due("forward", x.forward(3, 0), least);
        due("part", x.part(0, 3), least);
    }

    static void madeIsWhatIsMadeThere() {
        LotPlanner x = demanding(10, 0, 20, 5);
        for (int p = 0; p < 4; p++) due("made in " + p, x.by(p, 0), new int[] {10, 0, 25, 0}[p]);
    }

    static void stockIsWhatIsThereBehindThePeriod() {
        LotPlanner x = demanding(10, 0, 20, 5);
        for (int p = 0; p < 4; p++) due("stock of " + p, x.by(p, 1), new int[] {0, 0, 5, 0}[p]);
    }

    static void stockIsBelow0WhereItIsOwed() {
        LotPlanner x = demanding(4, 3, 2);
        tellEach(x, SETUP, 999, 999, 0);
        x.let(LATE_MAY_BE, 1);
        for (int p = 0; p < 3; p++) due("stock of " + p, x.by(p, 1), new int[] {-4, -7, 0}[p]);
        for (int p = 0; p < 3; p++) due("made in " + p, x.by(p, 0), new int[] {0, 0, 9}[p]);
    }

    static void theGreatestCostIsStillAnInt() {
        LotPlanner x = ofPeriods(16);
        x.let(LATE_MAY_BE, 1);
        x.tellAll(0, 15, DEMAND, 99);
        x.tellAll(0, 15, SETUP, 999);
        x.tellAll(0, 15, MAKING, 99);
        x.tellAll(0, 15, HOLDING, 99);
        x.tellAll(0, 15, LATE, 99);
        due("least", x.least(), 16 * (999 + 99 * 99));
        due("lots", x.lot(-1, 0), 16);
    }

    // ---- lot, by

    static void lotOfMinus1IsHowManyWhateverWhat() {
        LotPlanner x = demanding(10, 50);
        for (int what : new int[] {0, 4, 5, -1, LEAST, MOST}) due("lot(-1, " + what + ")", x.lot(-1, what), 2);
    }

    static void lotBehindTheLastOneIsNot() {
        LotPlanner x = demanding(10, 50);
        for (int what = 0; what < 5; what++) {
            due("lot(1, " + what + ")", x.lot(1, what), new int[] {1, 1, 1, 50, 100}[what]);
            due("lot(2, " + what + ")", x.lot(2, what), NOT);
        }
        due("lot(most, 0)", x.lot(MOST, 0), NOT);
    }

    static void lotBelowMinus1IsBad() {
        due("lot(-2, 0)", demanding(10, 50).lot(-2, 0), BAD);
        due("lot(least, 0)", demanding(10, 50).lot(LEAST, 0), BAD);
        due("lot(-2, 9)", demanding(10, 50).lot(-2, 9), BAD);
    }

    static void lotOfWhatThereIsntIsBadAheadOfNot() {
        LotPlanner x = demanding(10, 50);
        due("lot(0, -1)", x.lot(0, -1), BAD);
        due("lot(0, 5)", x.lot(0, 5), BAD);
        due("lot(2, 5)", x.lot(2, 5), BAD);
        due("lot(2, -1)", x.lot(2, -1), BAD);
        due("lot(0, 5) of none", ofPeriods(1).lot(0, 5), BAD);
    }

    static void byOfTheFirstAndTheLastPeriod() {
        LotPlanner x = demanding(60, 60);
        due("by(0, 0)", x.by(0, 0), 60);
        due("by(1, 0)", x.by(1, 0), 60);
        due("by(1, 1)", x.by(1, 1), 0);
    }

    static void byOfAPeriodOrWhatThatThereIsntIsFarBad() {
        LotPlanner x = demanding(60, 60);
        for (int p : new int[] {-1, 2, LEAST, MOST}) due("by(" + p + ", 0)", x.by(p, 0), FAR);
        for (int what : new int[] {-1, 2, LEAST, MOST}) due("by(0, " + what + ")", x.by(0, what), FAR);
    }

    // ---- forward

    static void forwardOf0Is0WithoutLastNorFirm() {
        LotPlanner x = demanding(10, 50);
        due("forward(0, 0)", x.forward(0, 0), 0);
        due("forward(0, 1)", x.forward(0, 1), NOT);
        due("forward(0, 2)", x.forward(0, 2), 0);
    }

    static void forwardOfSixteenPeriods() {
        LotPlanner x = ofPeriods(16);
        x.tellAll(0, 15, DEMAND, 99);
        x.tellAll(0, 15, HOLDING, 99);
        for (int t = 1; t <= 16; t++) {
            due("forward(" + t + ", 0)", x.forward(t, 0), 149 * t);
            due("forward(" + t + ", 1)", x.forward(t, 1), t - 1);
            due("forward(" + t + ", 2)", x.forward(t, 2), t - 1);
        }
        due("forward(17, 0)", x.forward(17, 0), BAD);
    }

    static void forwardOfNIsTheLeast() {
        LotPlanner x = demanding(10, 0, 20, 5);
        due("forward(4, 0)", x.forward(4, 0), 140);
        due("least", x.least(), 140);
    }

    static void forwardIsOfPeriodsAheadOfTAlone() {
        LotPlanner x = demanding(10, 20, 30);
        due("forward(1, 0)", x.forward(1, 0), 60);
        due("forward(2, 0)", x.forward(2, 0), 100);
        x.tellAll(2, 2, DEMAND, 99);
        due("forward(2, 0) with more in 2", x.forward(2, 0), 100);
        x.tell(1, DEMAND, 21);
        due("forward(2, 0) with more in 1", x.forward(2, 0), 102);
    }

    static void forwardWithLateIsMadeAheadOfTAlone() {
        LotPlanner x = demanding(7, 0, 0);
        tellEach(x, SETUP, 90, 60, 0);
        tellEach(x, LATE, 1, 1, 1);
        x.let(LATE_MAY_BE, 1);
        due("forward(1, 0)", x.forward(1, 0), 97);
        due("forward(2, 0)", x.forward(2, 0), 74);
        due("forward(3, 0)", x.forward(3, 0), 21);
    }

    static void forwardOfTOutside0ToNIsBad() {
        LotPlanner x = demanding(10, 20);
        for (int t : new int[] {-1, 3, 17, LEAST, MOST}) {
            for (int what = 0; what < 3; what++) due("forward(" + t + ", " + what + ")", x.forward(t, what), BAD);
        }
        due("forward(2, 0)", x.forward(2, 0), 100);
    }

    static void forwardOfWhatThereIsntIsBad() {
        LotPlanner x = demanding(10, 20);
        for (int what : new int[] {-1, 3, LEAST, MOST}) {
            due("forward(0, " + what + ")", x.forward(0, what), BAD);
            due("forward(2, " + what + ")", x.forward(2, what), BAD);
        }
    }

    static void lastIsTheGreatestOfSeveral() {
        LotPlanner x = demanding(10, 50);
        due("one and two lots cost the same", x.forward(2, 1), 1);
        x.tell(1, DEMAND, 49);
        due("one lot is cheaper", x.forward(2, 1), 0);
        x.tell(1, DEMAND, 51);
        due("two lots are cheaper", x.forward(2, 1), 1);
    }

    static void lastIsThatOfAnyPlanOfThatCost() {
        // THE PLAN ends with 3-4@4; 0-3@2, 4-4@4 costs the same
        LotPlanner x = demanding(0, 0, 60, 0, 60);
        duePlan(x, "0-2@2:60,3-4@4:60");
        due("last", x.forward(5, 1), 4);
    }

    static void lastIsNotWithoutALot() {
        LotPlanner x = demanding(0, 0, 5);
        for (int t = 0; t < 3; t++) {
            due("forward(" + t + ", 0)", x.forward(t, 0), 0);
            due("forward(" + t + ", 1)", x.forward(t, 1), NOT);
        }
        due("forward(3, 1)", x.forward(3, 1), 0);
    }

    static void lastOfOneLotIs0WhereverItIsMade() {
        LotPlanner x = demanding(0, 0, 5, 0);
        for (int t = 3; t <= 4; t++) due("forward(" + t + ", 1)", x.forward(t, 1), 0);
    }

    static void lastStaysOverPeriodsWithoutDemand() {
        LotPlanner x = demanding(60, 60, 0, 0);
        for (int t = 2; t <= 4; t++) due("forward(" + t + ", 1)", x.forward(t, 1), 1);
    }

    static void askingThatIsBadOfThePlanChangesNothing() {
        dueRefused("lot(-2, 0)", x -> x.lot(-2, 0), BAD);
        dueRefused("lot(0, 5)", x -> x.lot(0, 5), BAD);
        dueRefused("lot(9, 0)", x -> x.lot(9, 0), NOT);
        dueRefused("by(-1, 0)", x -> x.by(-1, 0), FAR);
        dueRefused("by(3, 0)", x -> x.by(3, 0), FAR);
        dueRefused("by(0, 2)", x -> x.by(0, 2), FAR);
        dueRefused("forward(-1, 0)", x -> x.forward(-1, 0), BAD);
        dueRefused("forward(4, 0)", x -> x.forward(4, 0), BAD);
        dueRefused("forward(0, 3)", x -> x.forward(0, 3), BAD);
        dueRefused("forward(0, 1)", x -> x.forward(0, 1), NOT);
        dueRefused("part(2, 1)", x -> x.part(2, 1), BAD);
        dueRefused("part(-1, 1)", x -> x.part(-1, 1), BAD);
        dueRefused("part(0, 4)", x -> x.part(0, 4), BAD);
    }

    // ---- calm, firm

    static void makingAsGreatAsMakingAndHoldingAheadIsCalm() {
        LotPlanner x = demanding(0, 0);
        x.tell(0, MAKING, 4);
        x.tell(0, HOLDING, 3);
        x.tell(1, MAKING, 7);
        due("7 of 4 and 3", x.calm(), 1);
        x.tell(1, MAKING, 8);
        due("8 of 4 and 3", x.calm(), 0);
        x.tell(0, HOLDING, 4);
        due("8 of 4 and 4", x.calm(), 1);
        x.tell(0, MAKING, 3);
        due("8 of 3 and 4", x.calm(), 0);
    }

    static void theLastPeriodsMakingMattersToCalmItsHoldingDoesnt() {
        LotPlanner x = ofPeriods(3);
        x.tell(2, MAKING, 3);
        due("making of the last", x.calm(), 0);
        x.tell(2, MAKING, 2);
        x.tell(2, HOLDING, 0);
        due("just calm", x.calm(), 1);
    }

    static void theFirstPeriodsMakingMayBeAny() {
        LotPlanner x = ofPeriods(3);
        x.tell(0, MAKING, 99);
        due("calm", x.calm(), 1);
        due("one period", ofPeriods(1).calm(), 1);
    }

    static void whereLateMayBeItIsNotCalm() {
        LotPlanner x = ofPeriods(3);
        due("not late", x.calm(), 1);
        x.let(LATE_MAY_BE, 1);
        due("late", x.calm(), 0);
        x.periods(1);
        due("late, one period", x.calm(), 0);
    }

    static void calmLooksAtAllPeriodsUpToN() {
        LotPlanner x = ofPeriods(16);
        due("sixteen", x.calm(), 1);
        x.tell(15, MAKING, 3);
        due("the sixteenth", x.calm(), 0);
        x.periods(15);
        due("fifteen", x.calm(), 1);
    }

    private static LotPlanner withLast3() {
        return demanding(10, 60, 0, 60, 0, 1, 0);
    }

    static void firmIsLastIfNoDemandIsBehindIt() {
        LotPlanner x = withLast3();
        due("last of 4", x.forward(4, 1), 3);
        due("firm of 4: no period behind", x.forward(4, 2), 3);
        due("firm of 5: one without demand behind", x.forward(5, 2), 3);
    }

    static void firmIs0WithDemandBehindLast() {
        LotPlanner x = withLast3();
        due("last of 6", x.forward(6, 1), 3);
        due("firm of 6", x.forward(6, 2), 0);
        due("last of 7", x.forward(7, 1), 3);
        due("firm of 7", x.forward(7, 2), 0);
        x.tell(5, DEMAND, 0);
        due("firm of 7 without it", x.forward(7, 2), 3);
    }

    static void firmIs0WithDemandRightBehindLast() {
        LotPlanner x = demanding(10, 60, 1, 0);
        for (int t = 2; t <= 4; t++) due("last of " + t, x.forward(t, 1), 1);
        due("firm of 2: right behind is t", x.forward(2, 2), 1);
        due("firm of 3: right behind is the last one", x.forward(3, 2), 0);
        due("firm of 4", x.forward(4, 2), 0);
    }

    static void firmIs0WithDemandInThePeriodAheadOfTAlone() {
        LotPlanner x = demanding(10, 60, 0, 0, 1);
        for (int t = 2; t <= 5; t++) due("last of " + t, x.forward(t, 1), 1);
        due("firm of 4", x.forward(4, 2), 1);
        due("firm of 5", x.forward(5, 2), 0);
    }

    static void firmDoesntGoByDemandFromTOn() {
        LotPlanner x = withLast3();
        x.tell(4, DEMAND, 99);
        due("firm of 4", x.forward(4, 2), 3);
    }

    static void firmIs0IfNotCalm() {
        LotPlanner x = withLast3();
        x.tell(6, MAKING, 3);
        due("last of 4", x.forward(4, 1), 3);
        due("firm of 4", x.forward(4, 2), 0);
        x.tell(6, MAKING, 2);
        due("firm of 4, calm", x.forward(4, 2), 3);
    }

    static void firmIs0IfLateMayBe() {
        LotPlanner x = withLast3();
        x.tellAll(0, 6, LATE, 99);
        x.let(LATE_MAY_BE, 1);
        due("last of 4", x.forward(4, 1), 3);
        due("firm of 4", x.forward(4, 2), 0);
    }

    static void firmIs0WithoutLast() {
        LotPlanner x = demanding(0, 0, 5);
        due("firm of 0", x.forward(0, 2), 0);
        due("firm of 2", x.forward(2, 2), 0);
        due("last of 2", x.forward(2, 1), NOT);
    }

    static void firmOfLast0Is0() {
        due("firm", demanding(5, 0).forward(2, 2), 0);
    }

    // ---- part, ways

    static void partOfNoPeriodsIs0() {
        LotPlanner x = demanding(10, 20, 30);
        for (int a = 0; a <= 3; a++) due("part(" + a + ", " + a + ")", x.part(a, a), 0);
    }

    static void partOfAllPeriodsIsTheLeast() {
        LotPlanner x = demanding(10, 0, 20, 5);
        due("part(0, 4)", x.part(0, 4), 140);
        LotPlanner y = ofPeriods(16);
        y.tell(15, DEMAND, 1);
        due("part(0, 16)", y.part(0, 16), 51);
        due("part(15, 16)", y.part(15, 16), 51);
        due("part(16, 16)", y.part(16, 16), 0);
    }

    static void partIsPlannedByItself() {
        LotPlanner x = demanding(10, 20, 30);
        x.tell(0, SETUP, 0);
        x.tell(2, SETUP, 0);
        // neither made in 0 nor kept for 2
        due("part(1, 2)", x.part(1, 2), 70);
        x.let(LATE_MAY_BE, 1);
        x.tellAll(0, 2, LATE, 0);
        due("part(1, 2) with late", x.part(1, 2), 70);
        due("part(1, 3) with late", x.part(1, 3), 50);
    }

    static void partWithAAboveNIsBad() {
        LotPlanner x = demanding(10, 20, 30);
        due("part(1, 0)", x.part(1, 0), BAD);
        due("part(3, 2)", x.part(3, 2), BAD);
    }

    static void partOutside0ToNIsBad() {
        LotPlanner x = demanding(10, 20, 30);
        due("part(-1, 2)", x.part(-1, 2), BAD);
        due("part(-1, -1)", x.part(-1, -1), BAD);
        due("part(0, 4)", x.part(0, 4), BAD);
        due("part(4, 4)", x.part(4, 4), BAD);
        due("part(least, most)", x.part(LEAST, MOST), BAD);
        due("part(0, most)", x.part(0, MOST), BAD);
    }

    static void waysOfNoDemandIsOne() {
        due("ways", new LotPlanner().ways(), 1);
        due("ways of one period", ofPeriods(1).ways(), 1);
    }

    static void waysCountsPlansOfTheLeastCostAlone() {
        LotPlanner x = demanding(10, 50);
        due("the same", x.ways(), 2);
        x.tell(1, DEMAND, 51);
        due("one above", x.ways(), 1);
        x.tell(1, DEMAND, 49);
        due("one below", x.ways(), 1);
    }

    static void waysGoByWhereLotsAreMade() {
        LotPlanner x = demandingForNothing(0, 1);
        due("made in 0 and in 1", x.ways(), 2);
    }

    private static int waysOfCheapPeriods(String demands) {
        LotPlanner x = ofPeriods(demands.length());
        x.let(LATE_MAY_BE, 1);
        for (int which = SETUP; which <= LATE; which++) x.tellAll(0, demands.length() - 1, which, 0);
        for (int p = 0; p < demands.length(); p++) {
            char sign = demands.charAt(p);
            if (sign == '1' || sign == 'I') x.tell(p, DEMAND, 1);
            // I and O are periods behind which a piece that is kept or owed costs something
            boolean dear = sign == 'I' || sign == 'O';
            x.tell(p, HOLDING, dear ? 1 : 0);
            x.tell(p, LATE, dear ? 1 : 0);
        }
        return x.ways();
    }

    static void waysJustBelow9999AreTold() {
        due("9996 ways", waysOfCheapPeriods("IIIO10101I10I101"), 9996);
        due("9999 ways", waysOfCheapPeriods("0100011011II11"), 9999);
    }

    static void waysJustAbove9999AreTold9999() {
        due("10000 ways", waysOfCheapPeriods("1000I1000IO110"), 9999);
    }

    static void waysFarAbove9999AreTold9999() {
        LotPlanner x = ofPeriods(16);
        x.tellAll(0, 15, SETUP, 0);
        x.tellAll(0, 15, HOLDING, 0);
        x.tellAll(0, 13, DEMAND, 1);
        // 8192 by where the lots are cut, each three times by where the last one ends
        due("24576", x.ways(), 9999);
        x.periods(14);
        due("8192", x.ways(), 8192);
        x.periods(15);
        x.tell(14, SETUP, 0);
        x.tell(14, DEMAND, 1);
        due("16384", x.ways(), 9999);
    }
}
