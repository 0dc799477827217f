/** The sentences of the document that name a boundary, of bounded plans and of rules: promises 16 to 18. */
public final class BoundaryBoundedTest extends Boundaries {
    private static final int EACH = 0, EVERY = 1, MEAN = 2, PARTS = 3;

    public static void main(String[] args) throws ReflectiveOperationException {
        runAll(BoundaryBoundedTest.class);
    }

    // ---- bounded

    static void asMuchAsRoomMayBeMade() {
        LotPlanner x = demanding(5);
        x.tell(0, ROOM, 5);
        dueBounded(x, 55, 5);
    }

    static void moreThanRoomMayNotBeMade() {
        LotPlanner x = demanding(5);
        x.tell(0, ROOM, 4);
        dueBounded(x, NOT, NOT);
    }

    static void whereRoomIs0NothingIsMade() {
        LotPlanner x = demanding(0, 5);
        x.tell(0, ROOM, 0);
        dueBounded(x, 55, 0, 5);
        x.tell(1, ROOM, 0);
        dueBounded(x, NOT, NOT, NOT);
    }

    static void roomMayBeLeftUnused() {
        LotPlanner x = demanding(3, 0);
        x.tellAll(0, 1, ROOM, 999);
        dueBounded(x, 53, 3, 0);
    }

    static void asMuchAsStoreMayBeKept() {
        LotPlanner x = demanding(0, 5);
        x.tell(1, ROOM, 0);
        x.let(STORE, 5);
        dueBounded(x, 60, 5, 0);
    }

    static void moreThanStoreMayNotBeKept() {
        LotPlanner x = demanding(0, 5);
        x.tell(1, ROOM, 0);
        x.let(STORE, 4);
        dueBounded(x, NOT, NOT, NOT);
    }

    static void withAStoreOf0NothingIsKept() {
        LotPlanner x = demanding(5, 5);
        x.tell(0, HOLDING, 0);
        x.let(STORE, 0);
        dueBounded(x, 110, 5, 5);
        x.let(STORE, 5);
        dueBounded(x, 60, 10, 0);
    }

    static void storeDoesntBoundWhatIsOwed() {
        LotPlanner x = demanding(5, 0);
        x.tell(0, ROOM, 0);
        x.let(STORE, 0);
        x.let(LATE_MAY_BE, 1);
        dueBounded(x, 25 + 55, 0, 5);
    }

    static void stockIsNotBelow0IfLateMayNotBe() {
        LotPlanner x = demanding(5, 0);
        x.tell(0, ROOM, 4);
        dueBounded(x, NOT, NOT, NOT);
        x.tell(0, ROOM, 5);
        dueBounded(x, 55, 5, 0);
    }

    static void stockMayBeBelow0IfLateMayBe() {
        LotPlanner x = demanding(5, 0);
        x.tell(0, ROOM, 4);
        x.tell(0, LATE, 99);
        x.let(LATE_MAY_BE, 1);
        // four in time, one late: 54, 99, 51
        dueBounded(x, 204, 4, 1);
    }

    static void behindTheLastPeriodNothingIsOwedEvenIfLateMayBe() {
        LotPlanner x = demanding(0, 5);
        x.let(LATE_MAY_BE, 1);
        x.tell(0, ROOM, 0);
        x.tell(1, ROOM, 4);
        dueBounded(x, NOT, NOT, NOT);
        x.tell(0, ROOM, 1);
        dueBounded(x, 50 + 1 + 1 + 54, 1, 4);
    }

    static void behindTheLastPeriodNothingIsLeft() {
        LotPlanner x = demandingForNothing(0, 3);
        dueBounded(x, 0, 0, 3);
        x.tellAll(0, 1, DEMAND, 0);
        dueBounded(x, 0, 0, 0);
    }

    static void setupIsOfPeriodsInWhichAnyAreMadeAlone() {
        LotPlanner x = demanding(1, 0);
        tellEach(x, SETUP, 7, 999);
        dueBounded(x, 8, 1, 0);
    }

    static void holdingIsOfStockAbove0AndLateOfWhatIsOwed() {
        LotPlanner x = demanding(4, 2, 3);
        tellEach(x, ROOM, 0, 9, 0);
        tellEach(x, HOLDING, 90, 2, 90);
        tellEach(x, LATE, 3, 90, 90);
        x.let(LATE_MAY_BE, 1);
        // four owed of 3 each, nine made, three held of 2 each
        dueBounded(x, 12 + 59 + 6, 0, 9, 0);
    }

    static void theLeastCostGoesAheadOfTheLeastMade() {
        LotPlanner x = demanding(0, 5);
        tellEach(x, SETUP, 44, 50);
        dueBounded(x, 44 + 5 + 5, 5, 0);
        x.tell(0, SETUP, 45);
        dueBounded(x, 55, 0, 5);
    }

    static void ofSeveralThatWithTheLeastMadeInPeriod0() {
        LotPlanner x = demandingForNothing(1, 2);
        dueBounded(x, 0, 1, 2);
        x.tell(1, ROOM, 1);
        dueBounded(x, 0, 2, 1);
    }

    static void thenThatWithTheLeastMadeInPeriod1() {
        LotPlanner x = demandingForNothing(0, 0, 3);
        dueBounded(x, 0, 0, 0, 3);
        x.tell(2, ROOM, 2);
        dueBounded(x, 0, 0, 1, 2);
        x.tell(1, ROOM, 0);
        dueBounded(x, 0, 1, 0, 2);
    }

    static void thenByThePeriodsBehindAndSoOn() {
        LotPlanner x = demandingForNothing(2, 0, 3, 1);
        dueBounded(x, 0, 2, 0, 3, 1);
        x.tell(3, ROOM, 0);
        dueBounded(x, 0, 2, 0, 4, 0);
        x.tell(2, ROOM, 1);
        dueBounded(x, 0, 2, 3, 1, 0);
        x.tell(1, ROOM, 2);
        dueBounded(x, 0, 3, 2, 1, 0);
    }

    static void thenByThePeriodsBehindWithMakingThatCosts() {
        LotPlanner x = demanding(2, 3, 4, 5);
        x.tellAll(0, 3, SETUP, 0);
        dueBounded(x, 14, 2, 3, 4, 5);
        x.tell(2, ROOM, 2);
        dueBounded(x, 16, 2, 5, 2, 5);
    }

    static void sixteenPeriodsBounded() {
        LotPlanner x = ofPeriods(16);
        x.tell(15, DEMAND, 5);
        x.tell(15, LATE, 0);
        due("bounded(-1)", x.bounded(-1), 55);
        due("bounded(15)", x.bounded(15), 5);
        // nothing may be owed behind the last one, though that would cost nothing
        x.let(LATE_MAY_BE, 1);
        due("bounded(-1) with late", x.bounded(-1), 55);
        due("bounded(15) with late", x.bounded(15), 5);
        x.tell(15, ROOM, 4);
        due("bounded(14) with 4 in 15", x.bounded(14), 5);
        x.tellAll(0, 14, ROOM, 0);
        due("bounded(-1) with 4 in 15 alone", x.bounded(-1), NOT);
    }

    static void theLeastMadeWithLateIsMadeLast() {
        LotPlanner x = demandingForNothing(2, 0, 0);
        x.let(LATE_MAY_BE, 1);
        dueBounded(x, 0, 0, 0, 2);
        x.tell(2, ROOM, 1);
        dueBounded(x, 0, 0, 1, 1);
    }

    static void a120AreNotLong() {
        LotPlanner x = demanding(60, 60);
        dueBounded(x, 220, 60, 60);
        due("handAs(1)", x.handAs(1), 120);
    }

    static void a121AreLong() {
        LotPlanner x = demanding(60, 61);
        dueBounded(x, LONG, LONG, LONG);
        due("handAs(1)", x.handAs(1), LONG);
        x.tell(0, DEMAND, 59);
        due("a hundred and twenty again", x.bounded(0), 59);
    }

    static void longGoesByTheDemandsOfAllPeriods() {
        LotPlanner x = ofPeriods(16);
        x.tellAll(0, 15, DEMAND, 7);
        due("112", x.bounded(0), 28);
        x.tell(15, DEMAND, 15);
        due("120", x.bounded(15) >= 0 ? 1 : 0, 1);
        x.tell(15, DEMAND, 16);
        due("121", x.bounded(15), LONG);
        x.periods(15);
        due("105", x.bounded(0) > 0 ? 1 : 0, 1);
    }

    static void longGoesAheadOfNot() {
        LotPlanner x = demanding(60, 60);
        x.tellAll(0, 1, ROOM, 0);
        due("not", x.bounded(-1), NOT);
        x.tell(0, DEMAND, 61);
        due("long", x.bounded(-1), LONG);
        due("long by hand", x.handAs(1), LONG);
    }

    static void boundedOfMinus1IsTheCost() {
        LotPlanner x = demanding(60, 60);
        due("bounded(-1)", x.bounded(-1), 220);
        due("bounded(0)", x.bounded(0), 60);
        due("bounded(1)", x.bounded(1), 60);
    }

    static void boundedOfAPeriodThatThereIsntIsBad() {
        LotPlanner x = demanding(60, 60);
        for (int p : new int[] {-2, 2, 16, LEAST, MOST}) due("bounded(" + p + ")", x.bounded(p), BAD);
    }

    static void boundedBadGoesAheadOfLongAndNot() {
        LotPlanner x = demanding(60, 61);
        due("long: bounded(2)", x.bounded(2), BAD);
        due("long: bounded(-2)", x.bounded(-2), BAD);
        x.tellAll(0, 1, ROOM, 0);
        x.tell(1, DEMAND, 1);
        due("not: bounded(2)", x.bounded(2), BAD);
        due("not: bounded(1)", x.bounded(1), NOT);
    }

    static void boundedOfNoDemandMakesNothing() {
        LotPlanner x = demanding(0, 0);
        x.tellAll(0, 1, ROOM, 0);
        x.let(STORE, 0);
        dueBounded(x, 0, 0, 0);
    }

    static void boundedChangesNothing() {
        dueNothingChanged("bounded(-1)", x -> x.bounded(-1));
        dueNothingChanged("bounded(2)", x -> x.bounded(2));
        dueRefused("bounded(3)", x -> x.bounded(3), BAD);
        dueRefused("bounded(-2)", x -> x.bounded(-2), BAD);
    }

    // ---- rules

    private static void dueRule(LotPlanner x, int rule, int n, int cost, int begins) {
        String call = "rule(" + rule + ", " + n + ", ";
        due(call + "0)", x.rule(rule, n, 0), cost);
        due(call + "1)", x.rule(rule, n, 1), Integer.bitCount(begins));
        due(call + "2)", x.rule(rule, n, 2), begins);
    }

    static void theFirstLotBeginsWithTheFirstPeriodThatHasDemand() {
        LotPlanner x = demanding(0, 0, 5);
        for (int rule = EACH; rule <= PARTS; rule++) dueRule(x, rule, 1, 55, 0b100);
    }

    static void theNextLotBeginsWithTheFirstPeriodWithDemandBehindIt() {
        LotPlanner x = demanding(5, 0, 0, 6);
        dueRule(x, EVERY, 1, 111, 0b1001);
        dueRule(x, EVERY, 2, 111, 0b1001);
        dueRule(x, EVERY, 3, 111, 0b1001);
        dueRule(x, EVERY, 4, 61 + 18, 0b1);
    }

    static void aRuleOfNoDemandHasNoLots() {
        LotPlanner x = demanding(0, 0, 0);
        for (int rule = EACH; rule <= PARTS; rule++) dueRule(x, rule, 2, 0, 0);
    }

    static void eachEndsAheadOfTheNextPeriodWithDemand() {
        LotPlanner x = demanding(1, 2, 0, 3);
        dueRule(x, EACH, 1, 156, 0b1011);
    }

    static void eachEndsWithTheLastPeriod() {
        dueRule(demanding(0, 3, 0, 0), EACH, 1, 53, 0b10);
        dueRule(demanding(0, 0, 3), EACH, 1, 53, 0b100);
    }

    static void everyHasNPeriods() {
        LotPlanner x = demanding(1, 1, 1, 1, 1, 1);
        // each is held for as many periods as it is behind the first of its lot
        dueRule(x, EVERY, 1, 306, 0b111111);
        dueRule(x, EVERY, 2, 159, 0b010101);
        dueRule(x, EVERY, 3, 112, 0b001001);
        dueRule(x, EVERY, 6, 71, 0b000001);
    }

    static void everyHasFewerWherePeriodsEnd() {
        LotPlanner x = demanding(1, 1, 1, 1, 1);
        dueRule(x, EVERY, 2, 157, 0b10101);
        dueRule(x, EVERY, 4, 111, 0b10001);
        dueRule(x, EVERY, 6, 65, 0b1);
        dueRule(x, EVERY, 16, 65, 0b1);
    }

    static void everyNIs1To16() {
        LotPlanner x = ofPeriods(16);
        x.tellAll(0, 15, DEMAND, 1);
        due("every 1", x.rule(EVERY, 1, 1), 16);
        due("every 15", x.rule(EVERY, 15, 2), 0x8001);
        due("every 16", x.rule(EVERY, 16, 2), 1);
        for (int n : new int[] {0, 17, -1, LEAST, MOST}) {
            for (int what = 0; what < 3; what++) due("every " + n, x.rule(EVERY, n, what), BAD);
        }
    }

    static void nDoesntMatterToTheOtherRules() {
        LotPlanner x = demanding(10, 60, 0, 20);
        for (int rule : new int[] {EACH, MEAN, PARTS}) {
            int cost = x.rule(rule, 1, 0);
            for (int n : new int[] {0, 17, -1, LEAST, MOST}) due("rule " + rule + " of " + n, x.rule(rule, n, 0), cost);
        }
    }

    static void meanTakesTheNextPeriodIfItStaysTheSame() {
        // 50 by 1, 100 by 2
        dueRule(demanding(5, 50), MEAN, 1, 50 + 55 + 50, 0b1);
    }

    static void meanLeavesTheNextPeriodIfItBecomesMore() {
        // 50 by 1, 101 by 2: more, though not if cut
        dueRule(demanding(5, 51), MEAN, 1, 55 + 101, 0b11);
    }

    static void meanTakesPeriodsWithoutDemand() {
        LotPlanner x = demanding(5, 0, 0, 49);
        x.tell(0, HOLDING, 0);
        x.tell(1, HOLDING, 0);
        // 50 by 3 is less than 99 by 4
        dueRule(x, MEAN, 1, 55 + 99, 0b1001);
        x.tell(3, DEMAND, 16);
        // 50 by 3 is more than 66 by 4
        dueRule(x, MEAN, 1, 50 + 21 + 16, 0b1);
    }

    static void meanHoldsUncutQuotientsAgainstEachOther() {
        LotPlanner x = demanding(5, 41, 50);
        tellEach(x, SETUP, 60, 60, 60);
        x.tell(1, HOLDING, 0);
        // 60 by 1, 101 by 2 (50 and a half), 151 by 3 (50 and a third)
        dueRule(x, MEAN, 1, 60 + 96 + 91, 0b1);
        x.tell(2, DEMAND, 51);
        // 152 by 3: 50 and two thirds
        dueRule(x, MEAN, 1, 60 + 46 + 41 + 60 + 51, 0b101);
    }

    static void meanWithASetupOf0() {
        LotPlanner x = demanding(5, 1);
        x.tell(0, SETUP, 0);
        dueRule(x, MEAN, 1, 5 + 51, 0b11);
        x.tell(0, HOLDING, 0);
        dueRule(x, MEAN, 1, 6, 0b1);
    }

    static void partsTakesTheNextPeriodIfHoldingIsAsMuchAsSetup() {
        dueRule(demanding(9, 50), PARTS, 1, 50 + 59 + 50, 0b1);
    }

    static void partsLeavesTheNextPeriodIfHoldingIsMoreThanSetup() {
        dueRule(demanding(9, 51), PARTS, 1, 59 + 101, 0b11);
    }

    static void partsGoesByTheSetupOfEachLotsFirstPeriod() {
        LotPlanner x = demanding(9, 51, 51, 51);
        tellEach(x, SETUP, 50, 51, 50, 50);
        // 0; 1 with 2; 3, as 51 and 102 are more than 51
        dueRule(x, PARTS, 1, 59 + 51 + 102 + 51 + 101, 0b1011);
    }

    static void partsWithASetupOf0() {
        LotPlanner x = demanding(5, 1);
        x.tell(0, SETUP, 0);
        dueRule(x, PARTS, 1, 5 + 51, 0b11);
        x.tell(0, HOLDING, 0);
        dueRule(x, PARTS, 1, 6, 0b1);
    }

    static void rulesAreMadeInTheFirstPeriodOfTheirLots() {
        LotPlanner x = demanding(3, 4);
        tellEach(x, SETUP, 70, 0);
        tellEach(x, MAKING, 5, 0);
        tellEach(x, HOLDING, 2, 99);
        dueRule(x, EVERY, 2, 70 + 35 + 8, 0b1);
    }

    static void lateDoesntMatterToRules() {
        LotPlanner x = demanding(5, 50, 7);
        x.tellAll(0, 2, LATE, 0);
        LotPlanner y = demanding(5, 50, 7);
        y.let(LATE_MAY_BE, 1);
        y.tellAll(0, 2, LATE, 0);
        for (int rule = EACH; rule <= PARTS; rule++) {
            for (int what = 0; what < 3; what++) due("rule " + rule, y.rule(rule, 2, what), x.rule(rule, 2, what));
        }
        due("thumb", y.thumb(), x.thumb());
    }

    static void roomAndStoreDontMatterToRules() {
        LotPlanner x = demanding(5, 50);
        x.tellAll(0, 1, ROOM, 0);
        x.let(STORE, 0);
        dueRule(x, EVERY, 2, 155, 0b1);
    }

    static void sixteenLotsOfARule() {
        LotPlanner x = ofPeriods(16);
        x.tellAll(0, 15, DEMAND, 99);
        x.tellAll(0, 15, HOLDING, 99);
        for (int rule = EACH; rule <= PARTS; rule++) dueRule(x, rule, 1, 16 * 149, 0xffff);
        // 99 of each held for p periods of 99 each: 120 times 9801
        due("every 16", x.rule(EVERY, 16, 0), 50 + 1584 + 120 * 9801);
    }

    static void aRuleThatThereIsntIsBad() {
        for (int rule : new int[] {-1, 4, LEAST, MOST}) dueRefused("rule(" + rule + ", 1, 0)", x -> x.rule(rule, 1, 0), BAD);
    }

    static void aRulesWhatThatThereIsntIsBad() {
        for (int what : new int[] {-1, 3, LEAST, MOST}) {
            for (int rule = EACH; rule <= PARTS; rule++) due("rule(" + rule + ", 1, " + what + ")", full().rule(rule, 1, what), BAD);
        }
    }

    static void rulesChangeNothing() {
        dueNothingChanged("rule(1, 2, 0)", x -> x.rule(EVERY, 2, 0));
        dueNothingChanged("rule(2, 2, 2)", x -> x.rule(MEAN, 2, 2));
        dueNothingChanged("thumb()", x -> x.thumb());
        dueRefused("rule(1, 0, 0)", x -> x.rule(EVERY, 0, 0), BAD);
        dueRefused("rule(1, 17, 0)", x -> x.rule(EVERY, 17, 0), BAD);
        dueRefused("rule(0, 1, 3)", x -> x.rule(EACH, 1, 3), BAD);
    }

    // ---- thumb

    static void thumbOfNoDemandIsEach() {
        due("thumb", new LotPlanner().thumb(), 0);
    }

    static void thumbEachGoesAheadOfEvery1() {
        LotPlanner x = demanding(99, 99);
        due("each", x.rule(EACH, 1, 0), x.rule(EVERY, 1, 0));
        due("thumb", x.thumb(), 0);
    }

    static void thumbEveryIsOfTheLeastN() {
        LotPlanner x = demanding(9, 9);
        due("every 2 and 3", x.rule(EVERY, 2, 0), x.rule(EVERY, 3, 0));
        due("thumb", x.thumb(), 102);
    }

    static void thumbEveryGoesAheadOfMeanAndParts() {
        LotPlanner x = demanding(9, 9, 9);
        due("every 3 and mean", x.rule(EVERY, 3, 0), x.rule(MEAN, 1, 0));
        due("every 3 and parts", x.rule(EVERY, 3, 0), x.rule(PARTS, 1, 0));
        due("thumb", x.thumb(), 103);
    }

    static void thumbMeanGoesAheadOfParts() {
        LotPlanner x = demanding(20, 0, 30, 5, 5, 40, 0, 7);
        due("mean and parts", x.rule(MEAN, 1, 0), x.rule(PARTS, 1, 0));
        due("thumb", x.thumb(), 200);
    }

    static void thumbPartsIsTheLast() {
        LotPlanner x = demanding(10, 60, 0, 20);
        due("parts", x.rule(PARTS, 1, 0), 230);
        due("mean", x.rule(MEAN, 1, 0), 240);
        due("thumb", x.thumb(), 300);
    }

    static void thumbLooksAtEvery16() {
        LotPlanner x = ofPeriods(16);
        x.tellAll(0, 15, DEMAND, 1);
        x.tellAll(0, 15, SETUP, 999);
        x.tell(0, SETUP, 0);
        // mean and parts leave period 1, as nothing is held for a setup of 0
        due("every 16", x.rule(EVERY, 16, 0), 136);
        due("thumb", x.thumb(), 116);
    }
}
