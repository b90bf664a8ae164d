/** Promises 9 to 11: a test for each sentence that names an edge or a refusal. */
public final class ScanEdgesTest {
    private static final int BAD = PostRates.BAD;
    private static final int CAST = PostRates.CAST;
    private static final int LEAST = Integer.MIN_VALUE;
    private static final int GREATEST = Integer.MAX_VALUE;
    private static final int[] ANY = {LEAST, -1, 0, 9, 10, GREATEST};

    private static final Check check = new Check();

    public static void main(String[] args) {
        toldIsZeroToFive();
        toldOfNoItem();
        toldOfNothing();
        noDayBeforeItIsPosted();
        theDayItWasUnderWayTo();
        scanOfEachScannedKind();
        scanCasts();
        scanOfNoItem();
        scannedIsZeroBefore();
        scannedIsOfTheLatestThatAnsweredOne();
        scannedMayBeAnyInt();
        scanOfAllStates();
        check.end();
    }

    private static void toldIsZeroToFive() {
        check.sentence("Promise 9: what = 0 KIND, 1 GRAMS, 2 VALUE, 3 STAMPS, 4 whether, 5 the day");
        PostRates office = Offices.withItem(6, 100000, 1000000);
        office.ask(0, 3, -3);
        office.post(0, 7);
        int[] want = {6, 100000, 1000000, -3, 1, 9};
        for (int what = 0; what <= 5; what++) {
            check.due("told(0, " + what + ")", office.told(0, what), want[what]);
        }
    }

    private static void toldOfNoItem() {
        check.sentence("Promise 9: BAD (ITEM)");
        PostRates office = Offices.withAllKinds(1, 1);
        PostRates full = Offices.full();
        for (int what = 0; what <= 5; what++) {
            for (int item : Offices.outside(8)) {
                check.due("told(" + item + ", " + what + ")", office.told(item, what), BAD);
            }
            for (int item : Offices.outside(79)) {
                check.due("told(" + item + ", " + what + ")", full.told(item, what), BAD);
            }
        }
    }

    private static void toldOfNothing() {
        check.sentence("Promise 9: BAD (what)");
        PostRates office = Offices.withItem(6, 1, 1);
        office.post(0, 0);
        for (int what : Offices.outside(5)) {
            check.due("told(0, " + what + ")", office.told(0, what), BAD);
        }
    }

    private static void noDayBeforeItIsPosted() {
        check.sentence("Promise 9: (BAD: it was never posted)");
        PostRates office = Offices.withAllKinds(1, 1);
        office.day(7);
        for (int item = 0; item <= 8; item++) {
            check.due("told(" + item + ", 5)", office.told(item, 5), BAD);
            office.post(item, 10);
            office.lose(item);
            check.due("told(" + item + ", 5) behind refusals", office.told(item, 5), BAD);
        }
    }

    private static void theDayItWasUnderWayTo() {
        check.sentence("Promise 9: 5 the day to which it is, or was, UNDER WAY");
        PostRates office = Offices.withItem(4, 1, 1);
        office.item(6, 1, 1);
        office.item(6, 1, 1);
        office.post(0, 0);
        office.post(1, 0);
        office.post(2, 9);
        check.due("day 0", office.told(0, 5), 0);
        office.lose(1);
        check.due("of one lost", office.told(1, 5), 2);
        office.day(1000);
        check.due("of one there", office.told(2, 5), 11);
        check.due("of one there on day 0", office.told(0, 5), 0);
    }

    private static void scanOfEachScannedKind() {
        check.sentence("Promise 10: 1, and ask(item, 5, n) of it is told by scanned()");
        PostRates office = Offices.withAllKinds(8, 1);
        for (int item = 1; item <= 8; item++) {
            for (int n : ANY) {
                check.due("scan(" + item + ", " + n + ")", office.scan(item, n), 1);
                int scanned = office.scanned();
                check.due("ask(" + item + ", 5, " + n + ")", office.ask(item, 5, n), scanned);
            }
        }
    }

    private static void scanCasts() {
        check.sentence("Promise 10: CAST");
        PostRates office = Offices.withItem(1, 1, 1);
        for (int n : ANY) {
            check.due("scan(0, " + n + ")", office.scan(0, n), CAST);
        }
        check.due("count(3)", office.count(3), ANY.length);
        check.due("scanned()", office.scanned(), 0);
    }

    private static void scanOfNoItem() {
        check.sentence("Promise 10: BAD");
        PostRates office = Offices.withAllKinds(1, 1);
        for (int item : Offices.outside(8)) {
            check.due("scan(" + item + ", 1)", office.scan(item, 1), BAD);
        }
        PostRates full = Offices.full();
        for (int item : Offices.outside(79)) {
            check.due("scan(" + item + ", 1)", full.scan(item, 1), BAD);
        }
        check.due("count(3)", office.count(3), 0);
    }

    private static void scannedIsZeroBefore() {
        check.sentence("Promise 11: 0 before");
        PostRates office = Offices.withAllKinds(1, 1);
        check.due("at first", office.scanned(), 0);
        office.scan(0, 1);
        office.scan(9, 1);
        office.ask(5, 5, 1);
        check.due("behind CAST, BAD and ask()", office.scanned(), 0);
    }

    private static void scannedIsOfTheLatestThatAnsweredOne() {
        check.sentence("Promise 11: The answer of the latest scan() that answered 1");
        PostRates office = Offices.withAllKinds(0, 1);
        office.scan(1, 1);
        check.due("the first", office.scanned(), 40);
        office.scan(5, 2);
        check.due("the second", office.scanned(), 120);
        office.scan(0, 3);
        check.due("behind CAST", office.scanned(), 120);
        office.scan(-1, 3);
        check.due("behind BAD", office.scanned(), 120);
        office.ask(1, 5, 3);
        check.due("behind ask()", office.scanned(), 120);
        office.scan(5, 0);
        check.due("of 0", office.scanned(), 0);
    }

    private static void scannedMayBeAnyInt() {
        check.sentence("Promise 11: The answer (wrapping)");
        PostRates office = Offices.withItem(8, 0, 1);
        office.scan(0, LEAST);
        check.due("by the least", office.scanned(), LEAST);
        PostRates courier = Offices.withItem(5, 6, 1);
        courier.scan(0, -1);
        check.due("by -1", courier.scanned(), -38);
        courier.scan(0, LEAST);
        check.due("by the least", courier.scanned(), LEAST + 7);
    }

    private static void scanOfAllStates() {
        check.sentence("Promise 10: An ITEM is SCANNED as such by n, in whichever state");
        PostRates office = Offices.withItem(6, 0, 1);
        office.item(6, 0, 1);
        office.post(0, 0);
        check.due("under way", office.scan(0, 1), 1);
        office.lose(0);
        check.due("lost", office.scan(0, 1), 1);
        office.post(1, 0);
        office.day(2);
        check.due("there", office.scan(1, 1), 1);
    }
}
