/** The sentences of the document that name a boundary, of what is in thought and by hand: promises 19 to 24. */
public final class BoundaryThoughtTest extends Boundaries {
    public static void main(String[] args) throws ReflectiveOperationException {
        runAll(BoundaryThoughtTest.class);
    }

    // ---- more

    static void moreOfADemandOf98() {
        due("more(0)", demanding(98).more(0), 1);
        due("more(1)", demanding(1, 98).more(1), 1);
    }

    static void moreOfADemandOf99IsFarBad() {
        due("more(0)", demanding(99).more(0), FAR);
        due("more(1)", demanding(1, 99).more(1), FAR);
        due("more(0) of the other", demanding(1, 99).more(0), 1);
    }

    static void moreOfNoDemandWantsALot() {
        due("more(0)", demanding(0).more(0), 51);
        due("more(15)", ofPeriods(16).more(15), 51);
    }

    static void moreOfAPeriodThatThereIsntIsFarBad() {
        for (int p : new int[] {-1, 3, LEAST, MOST}) dueRefused("more(" + p + ")", x -> x.more(p), FAR);
    }

    static void moreChangesNothing() {
        for (int p = 0; p < 3; p++) {
            int period = p;
            dueNothingChanged("more(" + p + ")", x -> x.more(period));
        }
    }

    // ---- keeps

    static void keeps999WhereThePlanMustMakeThere() {
        LotPlanner x = demanding(5, 5);
        due("keeps(0)", x.keeps(0), 999);
        x.tell(0, SETUP, 999);
        due("keeps(0) of 999", x.keeps(0), 999);
    }

    static void keepsJustBelow999() {
        LotPlanner x = demanding(1, 99);
        x.tell(0, HOLDING, 11);
        // 99 pieces held of 11 each: above the greatest setup
        due("keeps(1) of 1089 held", x.keeps(1), 999);
        x.tell(0, HOLDING, 10);
        due("keeps(1) of 990 held", x.keeps(1), 990);
        x.tell(1, DEMAND, 98);
        x.tell(0, MAKING, 3);
        x.tell(1, MAKING, 2);
        // 980 held, and 98 for making there
        due("keeps(1) of 1078", x.keeps(1), 999);
    }

    static void keepsOfEachNumber0To999() {
        // one piece, made in 0 or in 1 but for the setups alike: 0 goes ahead of 1
        for (int setup = 1; setup <= 999; setup++) {
            LotPlanner x = demandingForNothing(0, 1);
            x.tell(0, SETUP, setup);
            due("keeps(1) with " + setup + " ahead", x.keeps(1), setup - 1);
        }
        LotPlanner z = demandingForNothing(0, 1);
        z.tell(1, SETUP, 999);
        due("keeps(0) with 999 behind", z.keeps(0), 999);
        z.tell(1, SETUP, 998);
        due("keeps(0) with 998 behind", z.keeps(0), 998);
        z.tell(1, SETUP, 0);
        due("keeps(0) with 0 behind", z.keeps(0), 0);
    }

    static void keepsMayBe0() {
        LotPlanner x = demanding(5, 5);
        x.tell(0, HOLDING, 0);
        x.tell(1, SETUP, 0);
        due("made in 1", x.by(1, 0), 5);
        due("keeps(1)", x.keeps(1), 0);
    }

    static void keepsIsTheGreatestSetupWithWhichThatIsSo() {
        LotPlanner x = demanding(5, 30);
        x.tell(1, SETUP, 7);
        due("keeps(1)", x.keeps(1), 30);
        x.tell(1, SETUP, 30);
        due("made with it", x.by(1, 0), 30);
        due("keeps(1) then", x.keeps(1), 30);
        x.tell(1, SETUP, 31);
        due("not made with one more", x.by(1, 0), 0);
        due("keeps(1) then", x.keeps(1), NOT);
    }

    static void keepsGoesByWhatIsMadeFirstOfSeveral() {
        // made in 0 or in 1 for the same: 0 goes ahead
        LotPlanner x = demanding(0, 5);
        x.tell(0, HOLDING, 0);
        x.tell(0, SETUP, 60);
        due("made in 1", x.by(1, 0), 5);
        due("keeps(1)", x.keeps(1), 59);
        x.tell(0, SETUP, 50);
        due("made in 0", x.by(0, 0), 5);
        due("keeps(0)", x.keeps(0), 50);
    }

    static void keepsOfAPeriodInWhichNothingIsMadeIsNot() {
        LotPlanner x = demanding(5, 0, 5);
        due("keeps(1)", x.keeps(1), NOT);
        due("keeps(2)", x.keeps(2), NOT);
        due("keeps(0) of no demand", ofPeriods(1).keeps(0), NOT);
    }

    static void keepsOfAPeriodThatThereIsntIsBad() {
        for (int p : new int[] {-1, 3, LEAST, MOST}) dueRefused("keeps(" + p + ")", x -> x.keeps(p), BAD);
    }

    static void keepsChangesNothing() {
        dueNothingChanged("keeps(0)", x -> x.keeps(0));
        dueNothingChanged("keeps(1)", x -> x.keeps(1));
    }

    // ---- touched

    static void touchedByTheDemandThatThereIs() {
        LotPlanner x = demanding(10, 20);
        due("how many", x.touched(1, 20, 0), 0);
        due("the first", x.touched(1, 20, 1), NOT);
        due("cost", x.touched(1, 20, 2), 0);
    }

    static void touchedByADemandOf0() {
        LotPlanner x = demanding(10, 60);
        due("how many", x.touched(1, 0, 0), 1);
        due("the first", x.touched(1, 0, 1), 1);
        due("cost", x.touched(1, 0, 2), -110);
    }

    static void touchedByADemandOf99() {
        LotPlanner x = demanding(10, 20);
        // 20 kept for 20; 99 are made alone
        due("how many", x.touched(1, 99, 0), 2);
        due("the first", x.touched(1, 99, 1), 0);
        due("cost", x.touched(1, 99, 2), 60 + 149 - 100);
    }

    static void touchedOfADemandThatMayNotBeIsFarBad() {
        for (int v : new int[] {-1, 100, LEAST, MOST}) dueRefused("touched(0, " + v + ", 0)", x -> x.touched(0, v, 0), FAR);
    }

    static void touchedOfAPeriodThatThereIsntIsFarBad() {
        for (int p : new int[] {-1, 3, LEAST, MOST}) dueRefused("touched(" + p + ", 1, 0)", x -> x.touched(p, 1, 0), FAR);
    }

    static void touchedOfWhatThereIsntIsFarBad() {
        for (int what : new int[] {-1, 3, LEAST, MOST}) dueRefused("touched(0, 1, " + what + ")", x -> x.touched(0, 1, what), FAR);
    }

    static void touchedInTheFirstAndTheLastPeriod() {
        LotPlanner x = demanding(60, 60, 60);
        for (int p = 0; p < 3; p++) {
            due("how many " + p, x.touched(p, 61, 0), 1);
            due("the first " + p, x.touched(p, 61, 1), p);
            due("cost " + p, x.touched(p, 61, 2), 1);
        }
    }

    static void touchedChangesNothing() {
        for (int w = 0; w < 3; w++) {
            int what = w;
            dueNothingChanged("touched(1, 99, " + what + ")", x -> x.touched(1, 99, what));
        }
    }

    // ---- hand

    static void byHandIs0To999() {
        LotPlanner x = ofPeriods(2);
        due("hand(1, 999)", x.hand(1, 999), 0);
        due("hand(1, 1000)", x.hand(1, 1000), BAD);
        due("hand(1, -1)", x.hand(1, -1), BAD);
        due("hand(1, 0)", x.hand(1, 0), 999);
        due("hand(1, 0) again", x.hand(1, 0), 0);
    }

    static void byHandOfTheFirstAndTheLastPeriod() {
        LotPlanner x = ofPeriods(3);
        x.hand(0, 4);
        dueByHand(x, 4, 0, 0);
        x.hand(2, 5);
        dueByHand(x, 4, 0, 5);
    }

    static void handThatMayNotBeChangesNothing() {
        for (int p : new int[] {-1, 3, LEAST, MOST}) dueRefused("hand(" + p + ", 1)", x -> x.hand(p, 1), BAD);
        for (int v : new int[] {-1, 1000, LEAST, MOST}) dueRefused("hand(0, " + v + ")", x -> x.hand(0, v), BAD);
    }

    static void handIsNoChange() {
        LotPlanner x = full();
        x.hand(1, 7);
        due("behind", x.count(3), full().count(3));
        due("ahead", x.count(4), 1);
        x.undo();
        dueByHand(x, 5, 7, 6);
    }

    // ---- handAs

    static void handAsThePlan() {
        LotPlanner x = demanding(10, 50);
        handEach(x, 1, 2);
        due("handAs(0)", x.handAs(0), 60);
        dueByHand(x, 10, 50);
    }

    static void handAsThePlanDoesntGoByRoomNorLong() {
        LotPlanner x = demanding(99, 99);
        x.tellAll(0, 1, ROOM, 0);
        due("handAs(0)", x.handAs(0), 198);
        dueByHand(x, 99, 99);
    }

    static void handAsTheLeastBounded() {
        LotPlanner x = demanding(10, 49);
        x.tell(0, ROOM, 12);
        x.tell(1, ROOM, 48);
        due("handAs(1)", x.handAs(1), 59);
        dueByHand(x, 11, 48);
    }

    static void handAsNothing() {
        LotPlanner x = demanding(10, 50);
        handEach(x, 1, 2);
        due("handAs(2)", x.handAs(2), 0);
        dueByHand(x, 0, 0);
    }

    static void handAsOfNoDemandIsNothing() {
        for (int what = 0; what < 3; what++) {
            LotPlanner x = ofPeriods(2);
            handEach(x, 1, 2);
            due("handAs(" + what + ")", x.handAs(what), 0);
            dueByHand(x, 0, 0);
        }
    }

    static void handAsBoundedThatIsLongChangesNothing() {
        LotPlanner x = demanding(60, 61);
        handEach(x, 1, 2);
        due("handAs(1)", x.handAs(1), LONG);
        dueByHand(x, 1, 2);
        x.tell(1, DEMAND, 60);
        due("handAs(1) of 120", x.handAs(1), 120);
        dueByHand(x, 60, 60);
    }

    static void handAsBoundedThatIsNotChangesNothing() {
        LotPlanner x = demanding(60, 60);
        x.tell(0, ROOM, 59);
        handEach(x, 1, 2);
        due("handAs(1)", x.handAs(1), NOT);
        dueByHand(x, 1, 2);
        x.tell(0, ROOM, 60);
        due("handAs(1) of 60", x.handAs(1), 120);
        dueByHand(x, 60, 60);
    }

    static void handAsWhatThereIsntIsBad() {
        for (int what : new int[] {-1, 3, LEAST, MOST}) dueRefused("handAs(" + what + ")", x -> x.handAs(what), BAD);
    }

    static void handAsBadGoesAheadOfLong() {
        LotPlanner x = demanding(60, 61);
        due("handAs(3)", x.handAs(3), BAD);
        due("handAs(-1)", x.handAs(-1), BAD);
    }

    static void handAsIsNoChange() {
        for (int what = 0; what < 3; what++) {
            LotPlanner x = full();
            x.handAs(what);
            due("behind " + what, x.count(3), full().count(3));
            due("ahead " + what, x.count(4), 1);
        }
    }

    static void aPlanThatMakesMoreThan999IsLaidByHand() {
        LotPlanner x = ofPeriods(16);
        x.tellAll(0, 15, DEMAND, 99);
        x.tellAll(0, 15, HOLDING, 0);
        due("handAs(0)", x.handAs(0), 1584);
        due("stock", x.judged(2), 0);
        due("wrong: above the room", x.judged(1), 0);
        due("hand(0, 0)", x.hand(0, 0), 1584);
    }

    // ---- judged

    private static LotPlanner asDemanded() {
        LotPlanner x = demanding(3, 4, 5);
        handEach(x, 3, 4, 5);
        return x;
    }

    static void nothingIsWrong() {
        LotPlanner x = asDemanded();
        due("wrong", x.judged(1), NOT);
        due("cost", x.judged(0), 162);
        due("stock", x.judged(2), 0);
        due("nothing by hand, nothing demanded", ofPeriods(2).judged(1), NOT);
    }

    static void asMuchAsRoomIsNotWrong() {
        LotPlanner x = asDemanded();
        x.tell(1, ROOM, 4);
        due("wrong", x.judged(1), NOT);
    }

    static void moreThanRoomIsWrong() {
        LotPlanner x = asDemanded();
        x.tell(1, ROOM, 3);
        due("wrong", x.judged(1), 1);
        x.tell(0, ROOM, 2);
        due("wrong ahead of it", x.judged(1), 0);
    }

    static void asMuchAsStoreIsNotWrong() {
        LotPlanner x = asDemanded();
        handEach(x, 7, 0, 5);
        x.let(STORE, 4);
        due("wrong", x.judged(1), NOT);
    }

    static void moreThanStoreIsWrong() {
        LotPlanner x = asDemanded();
        handEach(x, 7, 0, 5);
        x.let(STORE, 3);
        due("wrong", x.judged(1), 0);
    }

    static void stockBelow0IsWrongIfLateMayNotBe() {
        LotPlanner x = asDemanded();
        handEach(x, 3, 3, 6);
        due("wrong", x.judged(1), 1);
    }

    static void stockBelow0IsNotWrongIfLateMayBe() {
        LotPlanner x = asDemanded();
        handEach(x, 0, 0, 12);
        x.let(LATE_MAY_BE, 1);
        x.let(STORE, 0);
        due("wrong", x.judged(1), NOT);
    }

    static void stockBehindTheLastPeriodIsWrong() {
        LotPlanner x = asDemanded();
        handEach(x, 3, 4, 6);
        due("wrong", x.judged(1), 2);
        due("stock", x.judged(2), 1);
    }

    static void owedBehindTheLastPeriodIsWrongEvenIfLateMayBe() {
        LotPlanner x = asDemanded();
        handEach(x, 3, 4, 4);
        x.let(LATE_MAY_BE, 1);
        due("wrong", x.judged(1), 2);
        due("stock", x.judged(2), -1);
    }

    static void wrongIsTheFirstOfSeveral() {
        LotPlanner x = asDemanded();
        handEach(x, 3, 3, 4);
        x.tell(2, ROOM, 3);
        due("below 0 in 1, above the room in 2", x.judged(1), 1);
        handEach(x, 3, 4, 4);
        due("above the room in 2", x.judged(1), 2);
    }

    static void aSetupIsOfPeriodsInWhichAnyAreMadeByHand() {
        LotPlanner x = demanding(5, 0);
        tellEach(x, SETUP, 7, 900);
        handEach(x, 5, 0);
        due("cost", x.judged(0), 12);
        x.hand(1, 1);
        // 900, one made, one held behind the last
        due("cost with one more", x.judged(0), 12 + 900 + 1 + 1);
    }

    static void costIsToldWhateverIsMade() {
        LotPlanner x = demanding(5, 5);
        tellEach(x, LATE, 3, 4);
        tellEach(x, HOLDING, 6, 7);
        x.tellAll(0, 1, ROOM, 0);
        x.let(STORE, 0);
        due("nothing made: five and ten owed", x.judged(0), 15 + 40);
        handEach(x, 6, 6);
        due("one and two held", x.judged(0), 112 + 6 + 14);
        due("wrong", x.judged(1), 0);
        handEach(x, 5, 0);
        due("neither held nor owed behind 0", x.judged(0), 55 + 20);
    }

    static void judgedOfWhatThereIsntIsFarBad() {
        for (int what : new int[] {-1, 3, LEAST, MOST}) dueRefused("judged(" + what + ")", x -> x.judged(what), FAR);
    }

    static void judgedChangesNothing() {
        for (int w = 0; w < 3; w++) {
            int what = w;
            dueNothingChanged("judged(" + what + ")", x -> x.judged(what));
        }
    }
}
