/** Promises 4 and 5: a test for each sentence that names an edge or a refusal. */
public final class AskEdgesTest {
    private static final int BAD = PostRates.BAD;
    private static final long ASK_BAD = Long.MIN_VALUE;
    private static final long ASK_CAST = Long.MIN_VALUE + 1;
    private static final int LEAST = Integer.MIN_VALUE;
    private static final int GREATEST = Integer.MAX_VALUE;
    private static final int[] ANY = {LEAST, -1, 0, 9, 10, GREATEST};

    private static final Check check = new Check();

    public static void main(String[] args) {
        membersAreZeroToSix();
        askOfNoItem();
        askOfNoZone();
        askWithAnyNumber();
        askCasts();
        askIsBadAheadOfCast();
        stampAnswersStampsThen();
        itemsOfAllStatesAreAsked();
        refusedAsksChangeNothing();
        leastIntIsNoRefusal();
        noEntryOfTheTrace();
        check.end();
    }

    private static void membersAreZeroToSix() {
        check.sentence("Promise 4: A MEMBER (0 .. 6) of an ITEM is asked");
        PostRates office = Offices.withItem(8, 13, 40, 0, 5, 6, 9);
        int[] want = {5 + 4, 3, 4, 0, 6, 6, 60};
        for (int member = 0; member <= 6; member++) {
            check.due("ask(0, " + member + ", 0)", office.ask(0, member, 0), want[member]);
        }
        for (int member : Offices.outside(6)) {
            check.due("ask(0, " + member + ", 0)", office.ask(0, member, 0), ASK_BAD);
        }
        check.due("count(3)", office.count(3), 7);
    }

    private static void askOfNoItem() {
        check.sentence("Promise 4: The least long: BAD (ITEM)");
        PostRates office = Offices.withAllKinds(1, 1);
        for (int item : Offices.outside(8)) {
            for (int member = 0; member <= 6; member++) {
                check.due("ask(" + item + ", " + member + ", 0)", office.ask(item, member, 0), ASK_BAD);
            }
        }
        PostRates full = Offices.full();
        for (int item : Offices.outside(79)) {
            check.due("ask(" + item + ", 4, 0)", full.ask(item, 4, 0), ASK_BAD);
        }
        check.due("ask(79, 4, 0)", full.ask(79, 4, 0), 79 % 7);
    }

    private static void askOfNoZone() {
        check.sentence("Promise 4: BAD (z of 0 and 1)");
        PostRates office = Offices.withItem(6, 0, 0);
        for (int member = 0; member <= 1; member++) {
            for (int zone : Offices.outside(9)) {
                check.due("ask(0, " + member + ", " + zone + ")", office.ask(0, member, zone), ASK_BAD);
            }
        }
        check.due("ask(0, 0, 9)", office.ask(0, 0, 9), 0);
        check.due("ask(0, 1, 9)", office.ask(0, 1, 9), 11);
    }

    private static void askWithAnyNumber() {
        check.sentence("Promise 4: with n (its z, its n; of 2, 4, 6 of no matter)");
        PostRates office = Offices.withItem(9, 6, 7, 6, 1000);
        for (int n : ANY) {
            check.due("ask(0, 2, " + n + ")", office.ask(0, 2, n), 6);
            check.due("ask(0, 4, " + n + ")", office.ask(0, 4, n), 18);
            check.due("ask(0, 6, " + n + ")", office.ask(0, 6, n), 78);
        }
        PostRates parcel = Offices.withItem(6, 0, 0);
        int stamps = 0;
        for (int n : ANY) {
            stamps += n;
            check.due("ask(0, 3, " + n + ")", parcel.ask(0, 3, n), stamps);
            check.due("ask(0, 5, " + n + ")", parcel.ask(0, 5, n), 60 * n);
        }
    }

    private static void askCasts() {
        check.sentence("Promise 4: one more: CAST (5, 6 of one that is not SCANNED)");
        PostRates office = Offices.withAllKinds(1, 1);
        for (int n : ANY) {
            check.due("ask(0, 5, " + n + ")", office.ask(0, 5, n), ASK_CAST);
            check.due("ask(0, 6, " + n + ")", office.ask(0, 6, n), ASK_CAST);
        }
        check.due("count(3)", office.count(3), 2 * ANY.length);
        for (int item = 1; item <= 8; item++) {
            check.due("ask(" + item + ", 5, 0) is no cast", office.ask(item, 5, 0) >= 0 ? 1 : 0, 1);
            check.due("ask(" + item + ", 6, 0) is no cast", office.ask(item, 6, 0) >= 40 ? 1 : 0, 1);
        }
    }

    private static void askIsBadAheadOfCast() {
        check.sentence("Promise 4: BAD (ITEM, MEMBER), of one that is not SCANNED, too");
        PostRates office = Offices.withItem(1, 1, 1);
        check.due("ask(1, 5, 0)", office.ask(1, 5, 0), ASK_BAD);
        check.due("ask(-1, 6, 0)", office.ask(-1, 6, 0), ASK_BAD);
        check.due("ask(0, 7, 0)", office.ask(0, 7, 0), ASK_BAD);
        check.due("count(3)", office.count(3), 0);
    }

    private static void stampAnswersStampsThen() {
        check.sentence("Promise 4: the answer (STAMP: STAMPS then)");
        PostRates office = Offices.withAllKinds(1, 1, 7, 10);
        check.due("letter", office.ask(0, 3, 10), 10);
        check.due("letter, above T7", office.ask(0, 3, 1), 0);
        check.due("parcel", office.ask(5, 3, 11), 11);
        check.due("parcel, more", office.ask(5, 3, 11), 22);
        check.due("fragile", office.ask(7, 3, 11), 5);
        check.due("courier", office.ask(4, 3, 0), 3);
        check.due("told(4, 3)", office.told(4, 3), 3);
    }

    private static void itemsOfAllStatesAreAsked() {
        check.sentence("Promise 4: A MEMBER of an ITEM is asked, in whichever state");
        PostRates office = Offices.withItem(6, 6, 0);
        office.item(6, 6, 0);
        office.post(0, 0);
        check.due("under way", office.ask(0, 5, 1), 66);
        office.lose(0);
        check.due("lost", office.ask(0, 5, 1), 66);
        office.post(1, 0);
        office.day(2);
        check.due("there", office.ask(1, 5, 1), 66);
        check.due("stamps of one there", office.ask(1, 3, 4), 4);
        check.due("still there", office.told(1, 4), 2);
    }

    private static void refusedAsksChangeNothing() {
        check.sentence("Promise 4: BAD changes nothing");
        PostRates office = Offices.withItem(6, 1, 1);
        office.ask(0, 3, 5);
        check.due("ask(1, 3, 1)", office.ask(1, 3, 1), ASK_BAD);
        check.due("ask(0, 7, 1)", office.ask(0, 7, 1), ASK_BAD);
        check.due("ask(0, 0, 10)", office.ask(0, 0, 10), ASK_BAD);
        check.due("told(0, 3)", office.told(0, 3), 5);
        check.due("count(3)", office.count(3), 1);
        check.traceDue("refused asks", office, 3);
    }

    private static void leastIntIsNoRefusal() {
        check.sentence("Promise 4: The least long: BAD; the least int is an answer");
        PostRates office = Offices.withItem(6, 1, 1);
        check.due("ask(0, 3, least)", office.ask(0, 3, LEAST), -2147483648L);
        check.due("ask(0, 3, 1)", office.ask(0, 3, 1), -2147483647L);
    }

    private static void noEntryOfTheTrace() {
        check.sentence("Promise 5: BAD: there is none");
        PostRates office = Offices.withItem(5, 1, 1);
        for (int i : Offices.outside(-1)) {
            check.due("trace(" + i + ") at first", office.trace(i), BAD);
        }
        office.ask(0, 3, 1);
        int[] want = {53, 33, 13, 3, 33, 13, 3};
        for (int i = 0; i < want.length; i++) {
            check.due("trace(" + i + ")", office.trace(i), want[i]);
        }
        for (int i : Offices.outside(want.length - 1)) {
            check.due("trace(" + i + ")", office.trace(i), BAD);
        }
        check.due("trace(160)", office.trace(160), BAD);
    }
}
