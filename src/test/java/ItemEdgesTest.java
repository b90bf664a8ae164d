/** Promises 1 to 3: a test for each sentence that names an edge or a refusal. */
public final class ItemEdgesTest {
    private static final int BAD = PostRates.BAD;
    private static final int FULL = PostRates.FULL;
    private static final long ASK_BAD = Long.MIN_VALUE;

    private static final Check check = new Check();

    public static void main(String[] args) {
        aNewObjectHasNoItems();
        tariffAnswersWhatItWas();
        aRefusedTariffChangesNothing();
        itemNumbersAreFromZeroOn();
        refusedItemsTakeNoNumber();
        eightyItemsThereAre();
        wrongItemsInAFullOffice();
        aFullOfficeStaysFull();
        check.end();
    }

    private static void aNewObjectHasNoItems() {
        check.sentence("Promise 1: No ITEMS");
        PostRates office = new PostRates();
        check.due("count(0)", office.count(0), 0);
        check.due("told(0, 0)", office.told(0, 0), BAD);
        check.due("ask(0, 0, 0)", office.ask(0, 0, 0), ASK_BAD);
        check.due("post(0, 0)", office.post(0, 0), BAD);
        check.due("lose(0)", office.lose(0), BAD);
        check.due("scan(0, 0)", office.scan(0, 0), BAD);
        check.due("first()", office.first(), BAD);
        check.due("day(1000)", office.day(1000), 0);
        check.due("count(3)", office.count(3), 0);
    }

    private static void tariffAnswersWhatItWas() {
        check.sentence("Promise 2: TARIFF k becomes v: what it was");
        PostRates office = new PostRates();
        check.due("tariff(7, 1000)", office.tariff(7, 1000), 0);
        check.due("tariff(0, 3)", office.tariff(0, 3), 0);
        check.due("tariff(7, 1000)", office.tariff(7, 1000), 1000);
        check.due("tariff(7, 0)", office.tariff(7, 0), 1000);
        check.due("tariff(0, 0)", office.tariff(0, 0), 3);
    }

    private static void aRefusedTariffChangesNothing() {
        check.sentence("Promise 2: BAD");
        PostRates office = Offices.withItem(6, 0, 0, 0, 5);
        for (int v : Offices.outside(1000)) {
            check.due("tariff(0, " + v + ")", office.tariff(0, v), BAD);
            check.due("cost", office.ask(0, 0, 0), 5);
        }
        for (int k : Offices.outside(7)) {
            check.due("tariff(" + k + ", 9)", office.tariff(k, 9), BAD);
            check.due("tariff(" + k + ", -1)", office.tariff(k, -1), BAD);
            check.due("cost", office.ask(0, 0, 0), 5);
        }
        check.due("tariff(0, 0)", office.tariff(0, 0), 5);
    }

    private static void itemNumbersAreFromZeroOn() {
        check.sentence("Promise 3: its number, from 0 on");
        PostRates office = new PostRates();
        check.due("the first", office.item(9, 1, 1), 0);
        check.due("the second", office.item(9, 1, 1), 1);
        check.due("told(1, 4), NEW", office.told(1, 4), 0);
        check.due("told(2, 4)", office.told(2, 4), BAD);
    }

    private static void refusedItemsTakeNoNumber() {
        check.sentence("Promise 3: BAD");
        PostRates office = Offices.withItem(1, 1, 1);
        check.due("item(10, 1, 1)", office.item(10, 1, 1), BAD);
        check.due("item(1, 100001, 1)", office.item(1, 100001, 1), BAD);
        check.due("item(1, 1, 1000001)", office.item(1, 1, 1000001), BAD);
        check.due("item(1, -1, 1)", office.item(1, -1, 1), BAD);
        check.due("item(1, 1, -1)", office.item(1, 1, -1), BAD);
        check.due("item(0, -1, -1)", office.item(0, -1, -1), BAD);
        check.due("count(0)", office.count(0), 1);
        check.due("told(1, 0)", office.told(1, 0), BAD);
        check.due("the next", office.item(2, 1, 1), 1);
    }

    private static void eightyItemsThereAre() {
        check.sentence("Promise 3: FULL: 80 there are");
        PostRates office = new PostRates();
        for (int i = 0; i < 80; i++) {
            check.due("item " + i, office.item(9, i, i), i);
        }
        check.due("the 81st", office.item(9, 80, 80), FULL);
        check.due("count(0)", office.count(0), 80);
        check.due("told(79, 1)", office.told(79, 1), 79);
        check.due("told(80, 1)", office.told(80, 1), BAD);
    }

    private static void wrongItemsInAFullOffice() {
        check.sentence("Promise 3: BAD, in a full office, too");
        PostRates office = Offices.full();
        check.due("item(0, 1, 1)", office.item(0, 1, 1), BAD);
        check.due("item(10, 1, 1)", office.item(10, 1, 1), BAD);
        check.due("item(1, -1, 1)", office.item(1, -1, 1), BAD);
        check.due("item(1, 100001, 1)", office.item(1, 100001, 1), BAD);
        check.due("item(1, 1, -1)", office.item(1, 1, -1), BAD);
        check.due("item(1, 1, 1000001)", office.item(1, 1, 1000001), BAD);
        check.due("item(1, 1, 1)", office.item(1, 1, 1), FULL);
    }

    private static void aFullOfficeStaysFull() {
        check.sentence("Promise 3: FULL: those THERE and LOST are among the 80");
        PostRates office = Offices.full();
        office.post(0, 0);
        office.post(1, 0);
        office.lose(1);
        office.day(1000);
        check.due("one is there", office.told(0, 4), 2);
        check.due("one is lost", office.told(1, 4), 3);
        check.due("item(1, 1, 1)", office.item(1, 1, 1), FULL);
        check.due("ask of the last", office.ask(79, 4, 0), 79 % 7);
        check.due("post of the last", office.post(79, 9), 1000 + 12);
    }
}
