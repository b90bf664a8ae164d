/** Promises 12 to 14, and the last call that is promised: a test for each sentence that names an edge. */
public final class CountEdgesTest {
    private static final int BAD = PostRates.BAD;

    private static final Check check = new Check();

    public static void main(String[] args) {
        firstOfNone();
        firstOfOne();
        firstOfLikeOnes();
        firstOfThoseThatAreNew();
        firstByRankOfItsKind();
        firstMayBeTheLast();
        firstAsksAllThatAreNewInOrder();
        tillBelowZero();
        tillOfTheDearest();
        tillByPostAndLoseAlone();
        countsAreZeroToThree();
        countOfNothing();
        actsThatAskedAnItem();
        callsThatAreNoActs();
        refusedActsAreNone();
        lastPromisedCall();
        check.end();
    }

    private static void firstOfNone() {
        check.sentence("Promise 12: BAD: none is");
        PostRates office = new PostRates();
        check.due("no items", office.first(), BAD);
        office.item(1, 1, 1);
        office.item(4, 1, 1);
        office.item(6, 1, 1);
        for (int item = 0; item <= 2; item++) {
            office.post(item, 0);
        }
        office.lose(0);
        office.day(0);
        check.due("one lost, one there, one under way", office.first(), BAD);
        check.due("count(3)", office.count(3), 4);
    }

    private static void firstOfOne() {
        check.sentence("Promise 12: The ITEM that is least by RANK: the only one");
        PostRates office = Offices.withItem(9, 6, 1);
        check.due("first()", office.first(), 0);
        check.due("first() again", office.first(), 0);
        check.due("told(0, 4)", office.told(0, 4), 0);
        check.due("count(3)", office.count(3), 2);
    }

    private static void firstOfLikeOnes() {
        check.sentence("Promise 12: of like ones the first");
        PostRates office = Offices.withItem(1, 5, 1);
        office.item(1, 3, 1);
        office.item(6, 10, 1);
        office.item(4, 2, 1);
        office.item(9, 1, 1);
        check.due("four of rank 3", office.first(), 1);
        office.post(1, 0);
        check.due("three", office.first(), 2);
        office.post(2, 0);
        check.due("two", office.first(), 3);
        office.post(3, 0);
        check.due("one", office.first(), 4);
    }

    private static void firstOfThoseThatAreNew() {
        check.sentence("Promise 12: of all that are NEW");
        PostRates office = Offices.withItem(6, 0, 1);
        office.item(6, 1, 1);
        office.item(4, 1, 1);
        office.item(6, 6, 1);
        office.post(0, 0);
        check.due("one under way", office.first(), 1);
        office.post(1, 0);
        office.lose(1);
        check.due("one lost", office.first(), 2);
        office.post(2, 0);
        office.day(0);
        check.due("one there", office.first(), 3);
    }

    private static void firstByRankOfItsKind() {
        check.sentence("Promise 12: least by RANK (of its own KIND)");
        PostRates office = Offices.withItem(9, 2, 1);
        office.item(4, 3, 1);
        office.item(1, 3, 1);
        check.due("ranks 6, 4, 3", office.first(), 2);
        office.post(2, 0);
        check.due("ranks 6, 4", office.first(), 1);
        office.item(9, 7, 1);
        check.due("ranks 6, 4, 0", office.first(), 3);
    }

    private static void firstMayBeTheLast() {
        check.sentence("Promise 12: its number: 0 .. 79");
        PostRates office = new PostRates();
        for (int i = 0; i < 79; i++) {
            office.item(1, 1, 1);
        }
        office.item(1, 0, 1);
        check.due("the last is least", office.first(), 79);
        office.post(79, 0);
        check.due("then the first", office.first(), 0);
    }

    private static void firstAsksAllThatAreNewInOrder() {
        check.sentence("Promise 12: (the RANK of each is asked, in order)");
        PostRates office = Offices.withAllKinds(0, 1);
        office.post(0, 0);
        office.post(7, 0);
        check.due("first()", office.first(), 1);
        check.traceDue("first()", office, 4, 4, 44, 4, 44, 4, 4, 4, 94, 4);
        check.due("count(3), one for all", office.count(3), 3);
    }

    private static void tillBelowZero() {
        check.sentence("Promise 13: THE TILL (below 0)");
        PostRates office = Offices.withItem(5, 1, 1000000, 6, 1000);
        office.post(0, 0);
        office.lose(0);
        check.due("till()", office.till(), -2100);
    }

    private static void tillOfTheDearest() {
        check.sentence("Promise 13: THE TILL (80 of the dearest)");
        PostRates office = Offices.withTariffs(0, 1000, 1, 1000, 2, 1000, 5, 1000);
        for (int i = 0; i < 80; i++) {
            office.item(9, 100000, 1000000);
            office.post(i, 9);
        }
        check.due("till()", office.till(), 80L * 1815000);
    }

    private static void tillByPostAndLoseAlone() {
        check.sentence("Promise 13: THE TILL: by post() and lose() alone");
        PostRates office = Offices.withItem(6, 1, 1, 0, 9, 6, 9);
        office.ask(0, 0, 0);
        office.ask(0, 2, 0);
        office.scan(0, 1);
        office.first();
        check.due("till()", office.till(), 0);
        office.post(0, 0);
        office.tariff(0, 1000);
        office.day(1000);
        office.lose(0);
        check.due("till() once it is there", office.till(), 9);
    }

    private static void countsAreZeroToThree() {
        check.sentence("Promise 14: What = 0 ITEMS, 1 TODAY, 2 entries of THE TRACE, 3 how many acts");
        PostRates office = Offices.withItem(9, 1, 1);
        office.item(9, 1, 1);
        office.day(7);
        office.ask(0, 2, 0);
        int[] want = {2, 7, 5, 1};
        for (int what = 0; what <= 3; what++) {
            check.due("count(" + what + ")", office.count(what), want[what]);
        }
    }

    private static void countOfNothing() {
        check.sentence("Promise 14: BAD");
        PostRates office = Offices.withItem(9, 1, 1);
        office.ask(0, 2, 0);
        for (int what : Offices.outside(3)) {
            check.due("count(" + what + ")", office.count(what), BAD);
        }
    }

    private static void actsThatAskedAnItem() {
        check.sentence("Promise 14: acts (ask(), scan(), post(), lose(), first() with a NEW one), CAST ones, too");
        PostRates office = Offices.withAllKinds(1, 1);
        office.ask(0, 0, 0);
        check.due("ask()", office.count(3), 1);
        office.ask(0, 5, 0);
        check.due("ask(), CAST", office.count(3), 2);
        office.ask(0, 6, 0);
        check.due("ask() of CODE, CAST", office.count(3), 3);
        office.scan(1, 0);
        check.due("scan()", office.count(3), 4);
        office.scan(0, 0);
        check.due("scan(), CAST", office.count(3), 5);
        office.post(0, 0);
        check.due("post()", office.count(3), 6);
        office.lose(0);
        check.due("lose()", office.count(3), 7);
        office.first();
        check.due("first()", office.count(3), 8);
        for (int member = 0; member <= 6; member++) {
            office.ask(8, member, 0);
        }
        check.due("ask() of each member", office.count(3), 15);
    }

    private static void callsThatAreNoActs() {
        check.sentence("Promise 14: acts: no other calls");
        PostRates office = Offices.withItem(4, 1, 1);
        office.post(0, 0);
        office.day(1);
        office.tariff(0, 1);
        office.item(1, 1, 1);
        office.told(0, 3);
        office.trace(0);
        office.scanned();
        office.till();
        office.count(3);
        check.due("count(3)", office.count(3), 1);
    }

    private static void refusedActsAreNone() {
        check.sentence("Promise 14: acts that asked an ITEM: no refused ones");
        PostRates office = Offices.withItem(4, 1, 1);
        office.ask(1, 0, 0);
        office.ask(0, 7, 0);
        office.ask(0, 0, 10);
        office.scan(1, 0);
        office.post(1, 0);
        office.post(0, 10);
        office.lose(1);
        office.lose(0);
        check.due("count(3)", office.count(3), 0);
        office.post(0, 0);
        office.post(0, 0);
        office.first();
        check.due("count(3), first() without a NEW one", office.count(3), 1);
    }

    private static void lastPromisedCall() {
        check.sentence("An object is used for at most 512 calls after it has been made");
        PostRates office = Offices.withItem(9, 6, 1, 0, 7);
        for (int call = 3; call < 512; call++) {
            office.ask(0, 3, 2);
        }
        check.due("the 512th call", office.count(3), 509);
        PostRates other = Offices.withItem(9, 6, 1, 0, 7);
        for (int call = 3; call < 512; call++) {
            other.first();
        }
        check.due("the 512th call", other.ask(0, 0, 0), 10);
    }
}
