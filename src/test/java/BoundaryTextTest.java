/** The sentences of the document that name a boundary, of the tape, of texts and of the plan printed: promises 7, 8 and 25. */
public final class BoundaryTextTest extends Boundaries {
    private static final String[] WORDS = {"demand", "setup", "making", "holding", "late", "room"};

    public static void main(String[] args) throws ReflectiveOperationException {
        runAll(BoundaryTextTest.class);
    }

    /** The text has its fault at that place, and tells nothing. */
    private static void dueFault(String text, int place) {
        dueFault(8, text, place);
    }

    private static void dueFault(int periods, String text, int place) {
        LotPlanner x = ofPeriods(periods);
        due("read of «" + text + "»", read(x, text), -100 - place);
        due("changes behind «" + text + "»", x.count(3), 0);
        due("bytes on the tape behind «" + text + "»", x.count(2), 0);
        dueEach(x, DEMAND, new int[periods]);
    }

    private static void dueText(String text, int clauses) {
        LotPlanner x = new LotPlanner();
        due("read of «" + text + "»", read(x, text), clauses);
        due("changes behind «" + text + "»", x.count(3), 1);
        due("bytes on the tape behind «" + text + "»", x.count(2), 0);
    }

    private static void dueTold(String text, int period, int which, int value) {
        LotPlanner x = ofPeriods(16);
        read(x, text);
        due("told by «" + text + "»", x.of(period, which), value);
    }

    // ---- the tape

    static void aByteIs32To126() {
        LotPlanner x = new LotPlanner();
        due("feed(32)", x.feed(32), 1);
        due("feed(126)", x.feed(126), 2);
        for (int letter : new int[] {31, 127, 0, -1, -32, 128, 256 + 32, 65536 + 32, LEAST, MOST}) due("feed(" + letter + ")", x.feed(letter), BAD);
        due("bytes", x.count(2), 2);
    }

    static void theTapeTakes120Bytes() {
        LotPlanner x = new LotPlanner();
        for (int i = 1; i <= 120; i++) due("feed", x.feed('x'), i);
        due("bytes", x.count(2), 120);
    }

    static void the121stByteIsFull() {
        LotPlanner x = new LotPlanner();
        for (int i = 1; i <= 120; i++) x.feed('x');
        due("feed", x.feed('x'), FULL);
        due("feed again", x.feed(';'), FULL);
        due("bytes", x.count(2), 120);
    }

    static void feedBadGoesAheadOfFull() {
        LotPlanner x = new LotPlanner();
        for (int i = 1; i <= 120; i++) x.feed('x');
        due("feed(31)", x.feed(31), BAD);
        due("feed(127)", x.feed(127), BAD);
        due("feed(126)", x.feed(126), FULL);
    }

    private static final String OF_120 = "late 01 011;late 1 22;late 1 3;late 1 4;late 1 5;late 1 6;late 1 7;late 1 8;late 1 9;late 1 1;late 1 2;late 1 3;late 7 8";

    static void aTextOf120BytesIsRead() {
        LotPlanner x = new LotPlanner();
        feed(x, OF_120);
        due("bytes", x.count(2), 120);
        due("read", x.read(), 13);
        due("the first period told", x.of(1, LATE), 3);
        due("the last clause", x.of(7, LATE), 8);
    }

    static void whatIsRefusedAsFullDoesntBelongToTheText() {
        LotPlanner x = new LotPlanner();
        feed(x, OF_120);
        due("the 121st", x.feed('9'), FULL);
        due("read", x.read(), 13);
        due("the last clause", x.of(7, LATE), 8);
    }

    static void aTextThatEndsTooEarlyAt120HasItsFaultThere() {
        String text = "late 1 1;".repeat(12) + "setup 1 123;";
        due("length", text.length(), 120);
        dueFault(text, 120);
    }

    static void theTapeIsTakenAnewBehindARead() {
        LotPlanner x = new LotPlanner();
        due("fault", read(x, "demand 1 1x"), -110);
        due("feed", x.feed('s'), 1);
        due("read", read(x, "etup 1 1"), 1);
        due("feed", x.feed('s'), 1);
    }

    static void theTapeStaysBehindAllOtherCalls() {
        LotPlanner x = full();
        x.tell(0, DEMAND, 100);
        x.least();
        x.undo();
        x.redo();
        x.back();
        x.periods(7);
        x.row(0, 5);
        x.handAs(0);
        due("bytes", x.count(2), 2);
        due("read of the text that it begins with", read(x, "te 6 9"), 1);
        due("told", x.of(6, LATE), 9);
    }

    // ---- clauses

    static void anEmptyTextEndsTooEarly() {
        dueFault("", 0);
    }

    static void oneClause() {
        dueText("demand 0 1", 1);
        dueTold("demand 0 1", 0, DEMAND, 1);
    }

    static void twoClauses() {
        dueText("demand 0 1;room 1 2", 2);
        dueTold("demand 0 1;room 1 2", 0, DEMAND, 1);
        dueTold("demand 0 1;room 1 2", 1, ROOM, 2);
    }

    static void behindASemicolonAClauseIsDue() {
        dueFault("demand 0 1;", 11);
        dueFault("demand 0 1;;demand 0 1", 11);
        dueFault(";demand 0 1", 0);
    }

    static void behindAClauseNothingButASemicolonIsDue() {
        dueFault("demand 0 1 ", 10);
        dueFault("demand 0 1,demand 0 1", 10);
        dueFault("demand 0 1:", 10);
        dueFault("demand 0 1 ;demand 0 1", 10);
        dueFault("demand 0 1demand 0 1", 10);
        dueFault("demand 0 1;demand 0 1x", 21);
    }

    static void aBlankAheadOfAClauseIsAFault() {
        dueFault(" demand 0 1", 0);
        dueFault("demand 0 1; demand 0 1", 11);
    }

    static void withAFaultInALaterClauseNothingIsTold() {
        LotPlanner x = full();
        x.read();
        LotPlanner y = full();
        y.read();
        due("read", read(x, "demand 0 1;setup * 3;room 9 1"), -126);
        dueSame("a fault", x, y);
    }

    static void theFirstOfSeveralFaultsIsTold() {
        dueFault("demand 9 1;setub 0 1", 7);
        dueFault("demand 1 100;setub 0 1", 9);
        dueFault("demand 1 1;setub 99 9999", 11);
    }

    static void clausesAreDoneInOrder() {
        dueTold("demand 3 1;demand * 2;demand 4 3", 3, DEMAND, 2);
        dueTold("demand 3 1;demand * 2;demand 4 3", 4, DEMAND, 3);
        dueTold("demand * 2;demand 3 1", 3, DEMAND, 1);
    }

    static void allClausesTogetherAreOneChange() {
        LotPlanner x = new LotPlanner();
        due("read", read(x, "demand 0 1;demand 1 2;let"), -122);
        due("no change by a fault", x.count(3), 0);
        due("read", read(x, "demand 0 1;demand 1 2"), 2);
        due("one change", x.count(3), 1);
        due("undo", x.undo(), 0);
        dueEach(x, DEMAND, 0, 0);
        due("redo", x.redo(), 0);
        dueEach(x, DEMAND, 1, 2);
    }

    // ---- words

    static void eachWordTellsItsNumber() {
        for (int which = 0; which < 6; which++) {
            dueText(WORDS[which] + " 2 3", 1);
            for (int other = 0; other < 6; other++) {
                dueTold(WORDS[which] + " 2 3", 2, other, which == other ? 3 : new LotPlanner().of(2, other));
            }
        }
    }

    static void aWordThatIsNoneIsAFaultWhereItBegins() {
        dueFault("demands 0 1", 0);
        dueFault("deman 0 1", 0);
        dueFault("xdemand 0 1", 0);
        dueFault("let 0 1", 0);
        dueFault("demandsetup 0 1", 0);
        dueFault("a", 0);
        dueFault("z 0 1", 0);
        dueFault("demand 0 1;rooms 0 1", 11);
    }

    static void aWordWithOneOtherLetterIsNone() {
        for (String word : WORDS) {
            dueText(word + " 0 1", 1);
            for (int i = 0; i < word.length(); i++) {
                dueFault(word.substring(0, i) + 'x' + word.substring(i + 1) + " 0 1", 0);
                dueFault("demand 0 1;" + word.substring(0, i) + word.substring(i + 1) + " 0 1", 11);
            }
        }
    }

    static void aWordIsAllLettersThatStandThere() {
        dueFault("demanda 0 1", 0);
        dueFault("demandz 0 1", 0);
        // the signs next to the letters are none
        dueFault("demand` 0 1", 6);
        dueFault("demand{ 0 1", 6);
        dueFault("demandA 0 1", 6);
    }

    static void withoutALetterTheFaultIsWhereTheWordIsDue() {
        for (String text : new String[] {"1", " ", "*", ";", "Demand 0 1", "{demand 0 1", "`demand 0 1", "-demand 0 1"}) dueFault(text, 0);
        dueFault("demand 0 1;0", 11);
        dueFault("demand 0 1;Room 0 1", 11);
    }

    static void aTextThatEndsWithinAWordHasItsFaultWhereThatBegins() {
        for (int length = 1; length < 6; length++) dueFault("demand".substring(0, length), 0);
        dueFault("demand 0 1;hold", 11);
        dueFault("demand 0 1;r", 11);
    }

    static void aTextThatEndsBehindAWordEndsTooEarly() {
        for (String word : WORDS) dueFault(word, word.length());
        dueFault("demand 0 1;late", 15);
    }

    static void behindAWordABlankIsDue() {
        dueFault("demand0 1", 6);
        dueFault("demand*", 6);
        dueFault("demand;", 6);
        dueFault("demand-0 1", 6);
        dueFault("late!0 1", 4);
    }

    // ---- periods

    static void aPeriodHasOneOrTwoFigures() {
        dueTold("setup 7 1", 7, SETUP, 1);
        dueTold("setup 07 1", 7, SETUP, 1);
        dueTold("setup 0 1", 0, SETUP, 1);
        dueTold("setup 00 1", 0, SETUP, 1);
        dueTold("setup 15 1", 15, SETUP, 1);
        dueTold("setup 9 1", 9, SETUP, 1);
        dueTold("setup 10 1", 10, SETUP, 1);
        dueText("setup 00 1", 1);
    }

    static void aThirdFigureOfAPeriodIsAFaultThere() {
        dueFault("setup 007 1", 8);
        dueFault("setup 000", 8);
        dueFault(16, "setup 150 1", 8);
        dueFault(16, "setup 100 1", 8);
    }

    static void aPeriodThatThereIsntIsAFaultWhereItBegins() {
        dueFault(8, "setup 8 1", 6);
        dueFault(8, "setup 08 1", 6);
        dueFault(8, "setup 99 1", 6);
        dueFault(8, "setup 100 1", 6);
        dueFault(8, "setup 8", 6);
        dueFault(16, "setup 16 1", 6);
        dueFault(1, "setup 1 1", 6);
        dueFault(8, "setup 1 1;setup 8 1", 16);
    }

    static void theLastPeriodThatThereIs() {
        for (int n : new int[] {1, 8, 16}) {
            LotPlanner x = ofPeriods(n);
            due("read", read(x, "setup " + (n - 1) + " 1"), 1);
            due("told", x.of(n - 1, SETUP), 1);
        }
    }

    static void withoutAPeriodTheFaultIsWhereItIsDue() {
        for (String text : new String[] {"setup x 1", "setup -1 1", "setup  1 1", "setup ;", "setup +1 1", "setup / 1", "setup : 1"}) dueFault(text, 6);
    }

    static void aTextThatEndsAheadOfAPeriodEndsTooEarly() {
        dueFault("setup ", 6);
        dueFault("setup 1 1;setup ", 16);
    }

    static void theStarMeansAllPeriods() {
        for (int n : new int[] {1, 16}) {
            LotPlanner x = ofPeriods(n);
            due("read", read(x, "making * 7"), 1);
            for (int p = 0; p < n; p++) due("told in " + p, x.of(p, MAKING), 7);
            due("one change", x.count(3), 1);
        }
    }

    static void theStarStandsAlone() {
        dueFault("setup ** 1", 7);
        dueFault("setup *1 1", 7);
        dueFault("setup 1* 1", 7);
        dueFault("setup *", 7);
    }

    static void behindAPeriodABlankIsDue() {
        dueFault("setup 1;", 7);
        dueFault("setup 1x", 7);
        dueFault("setup 1/", 7);
        dueFault("setup 1:", 7);
        dueFault("setup 01-1", 8);
        dueFault("setup *;1", 7);
    }

    static void aTextThatEndsBehindAPeriodEndsTooEarly() {
        dueFault("setup 1", 7);
        dueFault("setup 01", 8);
        dueFault("setup *", 7);
    }

    // ---- numbers

    static void aNumberHasOneToThreeFigures() {
        dueTold("setup 1 7", 1, SETUP, 7);
        dueTold("setup 1 07", 1, SETUP, 7);
        dueTold("setup 1 007", 1, SETUP, 7);
        dueTold("setup 1 0", 1, SETUP, 0);
        dueTold("setup 1 000", 1, SETUP, 0);
        dueTold("setup 1 999", 1, SETUP, 999);
        dueTold("setup 1 100", 1, SETUP, 100);
        dueTold("demand 1 099", 1, DEMAND, 99);
        dueText("demand 1 099", 1);
    }

    static void aFourthFigureOfANumberIsAFaultThere() {
        dueFault("setup 1 1000", 11);
        dueFault("setup 1 0001", 11);
        dueFault("demand 1 0991", 12);
        dueFault("room * 99999", 10);
    }

    static void aNumberThatMayNotBeForThatWordIsAFaultWhereItBegins() {
        dueFault("demand 1 100", 9);
        dueFault("making 1 100", 9);
        dueFault("holding 1 100", 10);
        dueFault("late 1 100", 7);
        dueFault("late 1 999;late 1 1", 7);
        dueFault("demand 1 1000", 9);
        dueFault("setup 1 1;demand * 100", 19);
        dueText("setup 1 100", 1);
        dueText("room 1 100", 1);
    }

    static void withoutANumberTheFaultIsWhereItIsDue() {
        for (String text : new String[] {"setup 1 x", "setup 1 -1", "setup 1  1", "setup 1 ;", "setup 1 *", "setup 1 /", "setup 1 :"}) dueFault(text, 8);
        dueFault("setup * x", 8);
    }

    static void aTextThatEndsAheadOfANumberEndsTooEarly() {
        dueFault("setup 1 ", 8);
        dueFault("setup 01 ", 9);
        dueFault("setup * ", 8);
    }

    static void lateInATextIsTheCostOfAPeriod() {
        LotPlanner x = new LotPlanner();
        due("read", read(x, "late * 1"), 1);
        due("whether late may be", x.count(6), 0);
        due("late of 7", x.of(7, LATE), 1);
    }

    static void aTextThatTellsTheSameIsAChange() {
        LotPlanner x = new LotPlanner();
        due("read", read(x, "demand * 0"), 1);
        due("changes", x.count(3), 1);
    }

    static void aFaultLeavesWhatMayBeDoneAgain() {
        LotPlanner x = full();
        x.read();
        due("read", read(x, "demand 0 100"), -109);
        due("ahead", x.count(4), 1);
        due("read", read(x, "demand 0 99"), 1);
        due("ahead behind a text", x.count(4), 0);
    }

    static void readEmptiesTheTapeAndByAFaultChangesNothingElse() {
        LotPlanner x = full();
        due("read of la", x.read(), -100);
        LotPlanner y = full();
        y.read();
        due("read of nothing", y.read(), -100);
        due("bytes", x.count(2), 0);
        due("changes", x.count(3), full().count(3));
        dueSame("a fault", x, y);
    }

    // ---- the plan printed

    static void aPlanWithNoLotIsPrintedAsNothing() {
        LotPlanner x = new LotPlanner();
        due("print(-1)", x.print(-1), 0);
        due("print(0)", x.print(0), NOT);
    }

    static void oneLotIsPrintedWithoutAComma() {
        duePlan(demanding(7), "0-0@0:7");
    }

    static void betweenLotsIsAComma() {
        duePlan(demanding(60, 61, 62), "0-0@0:60,1-1@1:61,2-2@2:62");
    }

    static void printedNumbersHaveNoZerosAhead() {
        LotPlanner x = ofPeriods(12);
        x.tell(9, DEMAND, 9);
        x.tell(10, DEMAND, 99);
        x.tellAll(8, 8, HOLDING, 0);
        x.tell(9, HOLDING, 99);
        x.tell(8, SETUP, 49);
        duePlan(x, "0-9@8:9,10-10@10:99");
        x.tell(9, HOLDING, 0);
        duePlan(x, "0-10@8:108");
    }

    static void pieces100And1000ArePrinted() {
        LotPlanner x = demanding(99, 1);
        duePlan(x, "0-1@0:100");
        LotPlanner y = ofPeriods(16);
        y.tellAll(0, 15, HOLDING, 0);
        y.tellAll(0, 9, DEMAND, 99);
        y.tell(10, DEMAND, 9);
        duePlan(y, "0-10@0:999");
        y.tell(10, DEMAND, 10);
        duePlan(y, "0-10@0:1000");
    }

    static void sixteenLotsArePrinted() {
        LotPlanner x = ofPeriods(16);
        x.tellAll(0, 15, DEMAND, 99);
        x.tellAll(0, 15, HOLDING, 99);
        StringBuilder all = new StringBuilder();
        for (int p = 0; p < 16; p++) all.append(p > 0 ? "," : "").append(p).append('-').append(p).append('@').append(p).append(":99");
        duePlan(x, all.toString());
        due("behind the last byte", x.print(all.length()), NOT);
    }

    static void printOfTheFirstAndTheLastByte() {
        LotPlanner x = demanding(7);
        due("print(-1)", x.print(-1), 7);
        due("print(0)", x.print(0), '0');
        due("print(6)", x.print(6), '7');
    }

    static void printBehindTheLastByteIsNot() {
        LotPlanner x = demanding(7);
        due("print(7)", x.print(7), NOT);
        due("print(most)", x.print(MOST), NOT);
    }

    static void printBelowMinus1IsBad() {
        dueRefused("print(-2)", x -> x.print(-2), BAD);
        dueRefused("print(least)", x -> x.print(LEAST), BAD);
        due("print(-2) of nothing", new LotPlanner().print(-2), BAD);
    }

    static void printChangesNothing() {
        dueNothingChanged("print(-1)", x -> x.print(-1));
        dueNothingChanged("print(0)", x -> x.print(0));
    }

    static void feedThatIsBadChangesNothing() {
        dueRefused("feed(31)", x -> x.feed(31), BAD);
        dueRefused("feed(127)", x -> x.feed(127), BAD);
    }
}
