/** The sentences of the document that name a boundary, of periods and their numbers: promises 1 to 6. */
public final class BoundaryPeriodsTest extends Boundaries {
    private static final String[] WORDS = {"demand", "setup", "making", "holding", "late", "room"};

    public static void main(String[] args) throws ReflectiveOperationException {
        runAll(BoundaryPeriodsTest.class);
    }

    // ---- how many periods

    static void onePeriodIsTheFewest() {
        LotPlanner x = new LotPlanner();
        due("periods(1)", x.periods(1), 8);
        due("count(0)", x.count(0), 1);
        due("of(0, SETUP)", x.of(0, SETUP), 50);
        due("of(1, SETUP)", x.of(1, SETUP), BAD);
        due("periods(0)", x.periods(0), BAD);
        due("periods(-1)", x.periods(-1), BAD);
        due("periods(least)", x.periods(LEAST), BAD);
        due("count(0) behind refused ones", x.count(0), 1);
    }

    static void sixteenPeriodsAreTheMost() {
        LotPlanner x = new LotPlanner();
        due("periods(16)", x.periods(16), 8);
        due("count(0)", x.count(0), 16);
        due("of(15, SETUP)", x.of(15, SETUP), 50);
        due("of(16, SETUP)", x.of(16, SETUP), BAD);
        due("periods(17)", x.periods(17), BAD);
        due("periods(most)", x.periods(MOST), BAD);
        due("count(0) behind refused ones", x.count(0), 16);
    }

    static void eightPeriodsAtFirst() {
        LotPlanner x = new LotPlanner();
        due("count(0)", x.count(0), 8);
        due("of(7, SETUP)", x.of(7, SETUP), 50);
        due("of(8, SETUP)", x.of(8, SETUP), BAD);
        due("periods(3)", x.periods(3), 8);
    }

    static void aNewObjectIsWithoutDemand() {
        LotPlanner x = new LotPlanner();
        dueEach(x, DEMAND, 0, 0, 0, 0, 0, 0, 0, 0);
        due("all demands", x.count(1), 0);
        due("least", x.least(), 0);
        due("lots", x.lot(-1, 0), 0);
    }

    static void eachNumberIsAtFirstAsTold() {
        int[] atFirst = {0, 50, 1, 1, 5, 999};
        LotPlanner x = new LotPlanner();
        for (int which = 0; which < 6; which++) {
            for (int p = 0; p < 8; p++) due("of(" + p + ", " + which + ")", x.of(p, which), atFirst[which]);
        }
    }

    static void storeIs999AtFirst() {
        due("count(5)", new LotPlanner().count(5), 999);
        due("let(STORE, 4)", new LotPlanner().let(STORE, 4), 999);
    }

    static void lateMayNotBeAtFirst() {
        due("count(6)", new LotPlanner().count(6), 0);
        due("let(LATE_MAY_BE, 1)", new LotPlanner().let(LATE_MAY_BE, 1), 0);
    }

    static void nothingIsByHandAtFirst() {
        dueByHand(new LotPlanner(), 0, 0, 0, 0, 0, 0, 0, 0);
        due("stock of nothing by hand", new LotPlanner().judged(2), 0);
    }

    static void aNewObjectHasNoChangesNoImageAndAnEmptyTape() {
        LotPlanner x = new LotPlanner();
        for (int what = 2; what <= 4; what++) due("count(" + what + ")", x.count(what), 0);
        due("undo", x.undo(), STATE);
        due("redo", x.redo(), STATE);
        due("back", x.back(), STATE);
        due("read", x.read(), -100);
    }

    static void numbersOfPeriodsThatStayStay() {
        LotPlanner x = ofPeriods(4);
        for (int which = 0; which < 6; which++) {
            x.tell(0, which, which + 1);
            x.tell(2, which, which + 11);
        }
        x.periods(3);
        for (int which = 0; which < 6; which++) due("fewer: of(2, " + which + ")", x.of(2, which), which + 11);
        x.periods(16);
        for (int which = 0; which < 6; which++) {
            due("more: of(0, " + which + ")", x.of(0, which), which + 1);
            due("more: of(2, " + which + ")", x.of(2, which), which + 11);
        }
    }

    static void numbersOfNewPeriodsAreAsAtFirst() {
        int[] atFirst = {0, 50, 1, 1, 5, 999};
        LotPlanner x = ofPeriods(4);
        for (int which = 0; which < 6; which++) x.tell(3, which, 2);
        x.periods(3);
        due("periods(16)", x.periods(16), 3);
        for (int which = 0; which < 6; which++) {
            due("of(3, " + which + ")", x.of(3, which), atFirst[which]);
            due("of(15, " + which + ")", x.of(15, which), atFirst[which]);
        }
    }

    static void whatIsByHandStaysInPeriodsThatStay() {
        LotPlanner x = ofPeriods(4);
        handEach(x, 1, 2, 3, 4);
        x.periods(3);
        dueByHand(x, 1, 2, 3);
        due("all that is left by hand", x.judged(2), 6);
        x.periods(5);
        dueByHand(x, 1, 2, 3);
    }

    static void whatIsByHandInNewPeriodsIsAsAtFirst() {
        LotPlanner x = ofPeriods(4);
        handEach(x, 1, 2, 3, 4);
        x.periods(3);
        x.periods(5);
        dueByHand(x, 1, 2, 3, 0, 0);
        due("stock by hand", x.judged(2), 6);
    }

    static void storeAndLateStayWithAnotherN() {
        LotPlanner x = new LotPlanner();
        x.let(STORE, 7);
        x.let(LATE_MAY_BE, 1);
        x.periods(2);
        due("store", x.count(5), 7);
        due("late", x.count(6), 1);
    }

    static void periodsWithNAsItIsChangesNothing() {
        due("periods(3) of 3", full().periods(3), 3);
        dueNothingChanged("periods(3) of 3", x -> x.periods(3));
    }

    static void periodsAnswersWhatNWas() {
        LotPlanner x = new LotPlanner();
        due("periods(16)", x.periods(16), 8);
        due("periods(1)", x.periods(1), 16);
        due("periods(1) again", x.periods(1), 1);
        due("periods(8)", x.periods(8), 1);
    }

    // ---- what a number may be

    private static void dueLimits(int which, int most, int atFirst) {
        LotPlanner x = new LotPlanner();
        due("tell 0", x.tell(7, which, 0), atFirst);
        due("tell the most", x.tell(7, which, most), 0);
        due("tell one above", x.tell(7, which, most + 1), BAD);
        due("tell one below 0", x.tell(7, which, -1), BAD);
        due("it stays", x.of(7, which), most);
        due("tellAll the most", x.tellAll(0, 6, which, most), 7);
        due("tellAll one above", x.tellAll(0, 7, which, most + 1), BAD);
        due("tellAll one below 0", x.tellAll(0, 7, which, -1), BAD);
        due("all stay", x.of(0, which), most);
        due("tellAll 0", x.tellAll(0, 7, which, 0), 8);
        due("a text with the most", read(x, WORDS[which] + " 3 " + most), 1);
        due("told by the text", x.of(3, which), most);
        due("a text with 0", read(x, WORDS[which] + " 3 0"), 1);
        due("0 told by the text", x.of(3, which), 0);
        int fault = WORDS[which].length() + 3 + (most == 999 ? 3 : 0);
        due("a text with one above", read(x, WORDS[which] + " 3 " + (most + 1)), -100 - fault);
        due("not told by the text", x.of(3, which), 0);
    }

    static void demandIs0To99() {
        dueLimits(DEMAND, 99, 0);
    }

    static void setupIs0To999() {
        dueLimits(SETUP, 999, 50);
    }

    static void makingIs0To99() {
        dueLimits(MAKING, 99, 1);
    }

    static void holdingIs0To99() {
        dueLimits(HOLDING, 99, 1);
    }

    static void lateIs0To99() {
        dueLimits(LATE, 99, 5);
    }

    static void roomIs0To999() {
        dueLimits(ROOM, 999, 999);
    }

    static void storeIs0To999() {
        LotPlanner x = new LotPlanner();
        due("let 0", x.let(STORE, 0), 999);
        due("let 999", x.let(STORE, 999), 0);
        due("let 1000", x.let(STORE, 1000), BAD);
        due("let -1", x.let(STORE, -1), BAD);
        due("let most", x.let(STORE, MOST), BAD);
        due("it stays", x.count(5), 999);
    }

    static void whetherLateMayBeIs0Or1() {
        LotPlanner x = new LotPlanner();
        due("let 1", x.let(LATE_MAY_BE, 1), 0);
        due("let 2", x.let(LATE_MAY_BE, 2), BAD);
        due("let -1", x.let(LATE_MAY_BE, -1), BAD);
        due("let 999", x.let(LATE_MAY_BE, 999), BAD);
        due("it stays", x.count(6), 1);
        due("let 0", x.let(LATE_MAY_BE, 0), 1);
        due("it is told", x.count(6), 0);
    }

    // ---- tell, tellAll, let, of

    static void tellTellsTheFirstAndTheLastPeriodAlone() {
        LotPlanner x = ofPeriods(3);
        x.tell(0, SETUP, 1);
        dueEach(x, SETUP, 1, 50, 50);
        x.tell(2, SETUP, 3);
        dueEach(x, SETUP, 1, 50, 3);
        dueEach(x, DEMAND, 0, 0, 0);
        dueEach(x, MAKING, 1, 1, 1);
    }

    static void tellOfAPeriodThatThereIsntIsBad() {
        dueRefused("tell(-1, 0, 1)", x -> x.tell(-1, DEMAND, 1), BAD);
        dueRefused("tell(3, 0, 1) of 3", x -> x.tell(3, DEMAND, 1), BAD);
        dueRefused("tell(16, 0, 1)", x -> x.tell(16, DEMAND, 1), BAD);
        dueRefused("tell(least, 0, 1)", x -> x.tell(LEAST, DEMAND, 1), BAD);
        dueRefused("tell(most, 0, 1)", x -> x.tell(MOST, DEMAND, 1), BAD);
    }

    static void tellOfANumberThatThereIsntIsBad() {
        dueRefused("tell(0, -1, 1)", x -> x.tell(0, -1, 1), BAD);
        dueRefused("tell(0, 6, 1)", x -> x.tell(0, 6, 1), BAD);
        dueRefused("tell(0, least, 1)", x -> x.tell(0, LEAST, 1), BAD);
        dueRefused("tell(0, most, 1)", x -> x.tell(0, MOST, 1), BAD);
    }

    static void tellOfAValueThatMayNotBeIsBad() {
        dueRefused("tell(0, DEMAND, 100)", x -> x.tell(0, DEMAND, 100), BAD);
        dueRefused("tell(0, ROOM, -1)", x -> x.tell(0, ROOM, -1), BAD);
        dueRefused("tell(0, SETUP, least)", x -> x.tell(0, SETUP, LEAST), BAD);
        dueRefused("tell(0, LATE, most)", x -> x.tell(0, LATE, MOST), BAD);
    }

    static void tellAllFromTheFirstToTheLastPeriod() {
        LotPlanner x = ofPeriods(4);
        due("tellAll(0, 3)", x.tellAll(0, 3, SETUP, 5), 4);
        dueEach(x, SETUP, 5, 5, 5, 5);
    }

    static void tellAllLeavesPeriodsJustOutside() {
        LotPlanner x = ofPeriods(5);
        due("tellAll(1, 3)", x.tellAll(1, 3, HOLDING, 5), 3);
        dueEach(x, HOLDING, 1, 5, 5, 5, 1);
        dueEach(x, MAKING, 1, 1, 1, 1, 1);
        dueEach(x, LATE, 5, 5, 5, 5, 5);
    }

    static void tellAllOfOnePeriod() {
        LotPlanner x = ofPeriods(3);
        due("tellAll(1, 1)", x.tellAll(1, 1, DEMAND, 5), 1);
        dueEach(x, DEMAND, 0, 5, 0);
    }

    static void tellAllWithFirstAboveLastIsBad() {
        dueRefused("tellAll(1, 0)", x -> x.tellAll(1, 0, DEMAND, 1), BAD);
        dueRefused("tellAll(2, 1)", x -> x.tellAll(2, 1, DEMAND, 1), BAD);
    }

    static void tellAllOfPeriodsThatThereArentIsBad() {
        dueRefused("tellAll(-1, 1)", x -> x.tellAll(-1, 1, DEMAND, 1), BAD);
        dueRefused("tellAll(0, 3) of 3", x -> x.tellAll(0, 3, DEMAND, 1), BAD);
        dueRefused("tellAll(3, 3) of 3", x -> x.tellAll(3, 3, DEMAND, 1), BAD);
        dueRefused("tellAll(least, most)", x -> x.tellAll(LEAST, MOST, DEMAND, 1), BAD);
    }

    static void tellAllOfANumberThatMayNotBeIsBad() {
        dueRefused("tellAll which -1", x -> x.tellAll(0, 2, -1, 1), BAD);
        dueRefused("tellAll which 6", x -> x.tellAll(0, 2, 6, 1), BAD);
        dueRefused("tellAll demand 100", x -> x.tellAll(0, 2, DEMAND, 100), BAD);
        dueRefused("tellAll late -1", x -> x.tellAll(0, 2, LATE, -1), BAD);
    }

    static void letOfWhatThereIsntIsBad() {
        dueRefused("let(-1, 0)", x -> x.let(-1, 0), BAD);
        dueRefused("let(2, 0)", x -> x.let(2, 0), BAD);
        dueRefused("let(least, 1)", x -> x.let(LEAST, 1), BAD);
        dueRefused("let(most, 1)", x -> x.let(MOST, 1), BAD);
    }

    static void letOfAValueThatMayNotBeIsBad() {
        dueRefused("let(STORE, 1000)", x -> x.let(STORE, 1000), BAD);
        dueRefused("let(STORE, -1)", x -> x.let(STORE, -1), BAD);
        dueRefused("let(LATE_MAY_BE, 2)", x -> x.let(LATE_MAY_BE, 2), BAD);
        dueRefused("let(LATE_MAY_BE, -1)", x -> x.let(LATE_MAY_BE, -1), BAD);
    }

    static void letLeavesTheOther() {
        LotPlanner x = new LotPlanner();
        x.let(STORE, 1);
        due("late", x.count(6), 0);
        x.let(LATE_MAY_BE, 1);
        due("store", x.count(5), 1);
    }

    static void ofAPeriodOrNumberThatThereIsntIsBad() {
        dueRefused("of(-1, 0)", x -> x.of(-1, 0), BAD);
        dueRefused("of(3, 0) of 3", x -> x.of(3, 0), BAD);
        dueRefused("of(0, -1)", x -> x.of(0, -1), BAD);
        dueRefused("of(0, 6)", x -> x.of(0, 6), BAD);
        dueRefused("of(most, least)", x -> x.of(MOST, LEAST), BAD);
    }

    static void periodsThatMayNotBeChangeNothing() {
        dueRefused("periods(0)", x -> x.periods(0), BAD);
        dueRefused("periods(17)", x -> x.periods(17), BAD);
        dueRefused("periods(least)", x -> x.periods(LEAST), BAD);
    }

    static void ofChangesNothing() {
        dueNothingChanged("of(2, 5)", x -> x.of(2, 5));
    }
}
