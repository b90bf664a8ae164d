/** THE TRACE: a test for each sentence on which bodies are told, of which act, and where it is empty. */
public final class TraceEdgesTest {
    private static final int BAD = PostRates.BAD;
    private static final long ASK_BAD = Long.MIN_VALUE;
    private static final long ASK_CAST = Long.MIN_VALUE + 1;
    private static final int COST = 0, DAYS = 1, COVER = 2, STAMP = 3, RANK = 4, SCAN = 5, CODE = 6;

    private static final Check check = new Check();

    public static void main(String[] args) {
        kindsWithoutABodyHaveTheNearestAbove();
        theLentScanIsWrittenAsFive();
        codeIsAskedAheadOfRank();
        bodiesAreWrittenAheadOfWhatTheyDo();
        limitedBodiesAreWrittenAllTheSame();
        aNewObjectHasNone();
        ofTheLatestActAlone();
        afterACastItIsEmpty();
        anActBehindACastIsWritten();
        refusedCallsLeaveIt();
        callsThatAskNoItemLeaveIt();
        thereIsNoEntryBehindTheLast();
        theLongest();
        check.end();
    }

    private static void traceOf(int kind, int member, int... want) {
        PostRates office = Offices.withItem(kind, 1, 1);
        office.ask(0, member, 1);
        check.traceDue("kind " + kind + ": ask(0, " + member + ", 1)", office, want);
    }

    private static void kindsWithoutABodyHaveTheNearestAbove() {
        check.sentence("a KIND without one has that of the nearest KIND above that has one");
        traceOf(2, COST, 10, 0);
        traceOf(4, COST, 30, 10, 0);
        traceOf(7, COST, 60, 0);
        traceOf(2, DAYS, 11);
        traceOf(5, DAYS, 41, 31, 11);
        traceOf(6, DAYS, 1);
        traceOf(7, DAYS, 1);
        traceOf(1, COVER, 2);
        traceOf(3, COVER, 22, 2);
        traceOf(4, COVER, 22, 2);
        traceOf(6, COVER, 2);
        traceOf(8, COVER, 72, 2);
        traceOf(2, STAMP, 13, 3);
        traceOf(4, STAMP, 33, 13, 3);
        traceOf(6, STAMP, 3);
        traceOf(7, STAMP, 3);
        traceOf(9, STAMP, 83, 3);
        traceOf(3, RANK, 4);
        traceOf(5, RANK, 44, 4);
        traceOf(8, RANK, 4);
        traceOf(4, CODE, 26);
        traceOf(8, CODE, 66);
    }

    private static void theLentScanIsWrittenAsFive() {
        check.sentence("10 times its KIND and its MEMBER (the one of SCAN that is lent: 5)");
        traceOf(2, SCAN, 5, 26, 4);
        traceOf(6, SCAN, 5, 66, 4);
        traceOf(8, SCAN, 85, 5, 66, 4);
        traceOf(9, SCAN, 85, 5, 96, 66, 94, 4, 94, 4);
    }

    private static void codeIsAskedAheadOfRank() {
        check.sentence("CODE times n, and RANK (in this order)");
        traceOf(4, SCAN, 5, 26, 44, 4);
        traceOf(5, SCAN, 5, 56, 26, 44, 4);
    }

    private static void bodiesAreWrittenAheadOfWhatTheyDo() {
        check.sentence("Each BODY that begins is written down, ahead of what it does");
        traceOf(5, COST, 50, 30, 10, 0);
        traceOf(9, COST, 90, 80, 60, 0);
        traceOf(9, DAYS, 91, 81, 1);
        traceOf(5, COVER, 52, 22, 2);
        traceOf(9, COVER, 92, 72, 2, 72, 2);
        traceOf(5, STAMP, 53, 33, 13, 3, 33, 13, 3);
        traceOf(9, RANK, 94, 4);
        traceOf(5, CODE, 56, 26);
        traceOf(9, CODE, 96, 66, 94, 4);
    }

    private static void limitedBodiesAreWrittenAllTheSame() {
        check.sentence("Each BODY that begins is written down, where a limit holds, too");
        PostRates office = Offices.withItem(5, 0, 0, 3, 1000);
        office.ask(0, COST, 0);
        check.traceDue("cost below 0", office, 50, 30, 10, 0);
        office.ask(0, DAYS, 0);
        check.traceDue("days below 1", office, 41, 31, 11);
        office.ask(0, STAMP, 1000);
        check.traceDue("stamps above T7", office, 53, 33, 13, 3, 33, 13, 3);
        office.ask(0, SCAN, 0);
        check.traceDue("scan by 0", office, 5, 56, 26, 44, 4);
    }

    private static void aNewObjectHasNone() {
        check.sentence("THE TRACE, of the latest act that asked an ITEM: there is none at first");
        PostRates office = new PostRates();
        check.traceDue("new", office);
        office.item(9, 1, 1);
        check.traceDue("item()", office);
    }

    private static void ofTheLatestActAlone() {
        check.sentence("THE TRACE, of the latest act that asked an ITEM");
        PostRates office = Offices.withAllKinds(1, 1);
        office.ask(8, SCAN, 1);
        office.ask(0, RANK, 1);
        check.traceDue("a short one behind a long one", office, 4);
        for (int i = 1; i <= 8; i++) {
            check.due("trace(" + i + ")", office.trace(i), BAD);
        }
        office.post(0, 0);
        check.traceDue("post()", office, 10, 0, 11);
        office.lose(0);
        check.traceDue("lose()", office, 2);
        office.scan(1, 1);
        check.traceDue("scan()", office, 5, 26, 4);
        office.first();
        check.traceDue("first()", office, 4, 4, 44, 4, 44, 4, 4, 4, 4, 94, 4);
    }

    private static void afterACastItIsEmpty() {
        check.sentence("of one that ended with CAST it is empty");
        PostRates office = Offices.withAllKinds(1, 1);
        for (int member = SCAN; member <= CODE; member++) {
            office.ask(8, COST, 1);
            check.due("ask(0, " + member + ", 1)", office.ask(0, member, 1), ASK_CAST);
            check.traceDue("ask(0, " + member + ", 1)", office);
        }
        office.ask(8, COST, 1);
        check.due("scan(0, 1)", office.scan(0, 1), PostRates.CAST);
        check.traceDue("scan(0, 1)", office);
        check.due("scan(0, 1) again", office.scan(0, 1), PostRates.CAST);
        check.traceDue("scan(0, 1) again", office);
        for (int i = 0; i <= 3; i++) {
            check.due("trace(" + i + ")", office.trace(i), BAD);
        }
    }

    private static void anActBehindACastIsWritten() {
        check.sentence("THE TRACE, of the latest act that asked an ITEM: of one behind a CAST, too");
        PostRates office = Offices.withAllKinds(1, 1);
        office.scan(0, 1);
        office.ask(7, SCAN, 1);
        check.traceDue("ask(7, 5, 1)", office, 85, 5, 66, 4);
        office.ask(0, CODE, 1);
        office.ask(-1, COST, 1);
        check.traceDue("a refused one behind a cast", office);
    }

    private static void refusedCallsLeaveIt() {
        check.sentence("the latest act that asked an ITEM: a refused call asks none");
        PostRates office = Offices.withAllKinds(1, 1);
        office.post(1, 0);
        office.ask(8, RANK, 0);
        check.due("ask of no item", office.ask(9, COST, 0), ASK_BAD);
        check.due("ask of no member", office.ask(0, 7, 0), ASK_BAD);
        check.due("ask of no zone", office.ask(0, DAYS, 10), ASK_BAD);
        check.due("post of no item", office.post(9, 0), BAD);
        check.due("post to no zone", office.post(0, 10), BAD);
        check.due("post again", office.post(1, 0), PostRates.STATE);
        check.due("lose of no item", office.lose(9), BAD);
        check.due("lose of a new one", office.lose(0), PostRates.STATE);
        check.due("scan of no item", office.scan(9, 1), BAD);
        check.traceDue("refused calls", office, 94, 4);
        PostRates empty = Offices.withItem(1, 1, 1);
        empty.post(0, 0);
        check.due("first() of none", empty.first(), BAD);
        check.traceDue("first() of none", empty, 10, 0, 11);
    }

    private static void callsThatAskNoItemLeaveIt() {
        check.sentence("day: (No ITEM is asked.)");
        PostRates office = Offices.withAllKinds(1, 1);
        office.post(0, 0);
        office.ask(8, RANK, 0);
        check.due("day(1)", office.day(1), 1);
        check.traceDue("day(1)", office, 94, 4);
        office.tariff(0, 1);
        office.item(9, 1, 1);
        office.told(0, 0);
        office.scanned();
        office.till();
        office.count(0);
        check.traceDue("calls that ask no item", office, 94, 4);
        check.due("acts", office.count(3), 2);
    }

    private static void thereIsNoEntryBehindTheLast() {
        check.sentence("Entry i of THE TRACE, from the first (0) on; BAD: there is none");
        PostRates office = Offices.withItem(9, 1, 1);
        office.ask(0, DAYS, 1);
        check.due("trace(0)", office.trace(0), 91);
        check.due("trace(2)", office.trace(2), 1);
        for (int i : Offices.outside(2)) {
            check.due("trace(" + i + ")", office.trace(i), BAD);
        }
    }

    private static void theLongest() {
        check.sentence("the RANK of each is asked, in order: of 80 items");
        PostRates office = new PostRates();
        for (int i = 0; i < 80; i++) {
            office.item(i % 2 == 0 ? 9 : 4, 1, 1);
        }
        office.first();
        check.due("count(2)", office.count(2), 160);
        for (int i = 0; i < 160; i += 4) {
            check.due("trace(" + i + ")", office.trace(i), 94);
            check.due("trace(" + (i + 1) + ")", office.trace(i + 1), 4);
            check.due("trace(" + (i + 2) + ")", office.trace(i + 2), 44);
            check.due("trace(" + (i + 3) + ")", office.trace(i + 3), 4);
        }
        check.due("trace(160)", office.trace(160), BAD);
    }
}
