/** Promises 1 to 3 and 6 to 14: ordinary inputs, the document's edges and wrong inputs of each. */
public final class OfficeTest {
    private static final int LEAST = Integer.MIN_VALUE;
    private static final int GREATEST = Integer.MAX_VALUE;

    private static final Check check = new Check();

    public static void main(String[] args) {
        aNewObject();
        tariffs();
        items();
        posting();
        losing();
        days();
        telling();
        scanning();
        theFirst();
        theTill();
        counting();
        officesAreApart();
        check.end();
    }

    private static void aNewObject() {
        PostRates office = new PostRates();
        for (int what = 0; what <= 3; what++) {
            check.due("new: count(" + what + ")", office.count(what), 0);
        }
        check.due("new: till()", office.till(), 0);
        check.due("new: scanned()", office.scanned(), 0);
        check.due("new: first()", office.first(), PostRates.BAD);
        check.due("new: trace(0)", office.trace(0), PostRates.BAD);
        check.due("new: told(0, 0)", office.told(0, 0), PostRates.BAD);
        for (int k = 0; k <= 7; k++) {
            check.due("new: tariff " + k, office.tariff(k, 0), 0);
        }
    }

    private static void tariffs() {
        PostRates office = new PostRates();
        for (int k = 0; k <= 7; k++) {
            check.due("tariff at first", office.tariff(k, 1000 - k), 0);
        }
        for (int k = 0; k <= 7; k++) {
            check.due("tariff(" + k + ", -1)", office.tariff(k, -1), PostRates.BAD);
            check.due("tariff(" + k + ", 1001)", office.tariff(k, 1001), PostRates.BAD);
            check.due("tariff(" + k + ", least)", office.tariff(k, LEAST), PostRates.BAD);
            check.due("tariff(" + k + ", greatest)", office.tariff(k, GREATEST), PostRates.BAD);
            check.due("tariff(" + k + ", 0)", office.tariff(k, 0), 1000 - k);
            check.due("tariff(" + k + ", 1000)", office.tariff(k, 1000), 0);
        }
        for (int k : new int[] {-1, 8, LEAST, GREATEST}) {
            check.due("tariff(" + k + ", 1)", office.tariff(k, 1), PostRates.BAD);
        }
    }

    private static void items() {
        PostRates office = new PostRates();
        int[][] wrong = {
            {0, 1, 1}, {10, 1, 1}, {-1, 1, 1}, {LEAST, 1, 1}, {GREATEST, 1, 1},
            {1, -1, 1}, {1, 100001, 1}, {1, LEAST, 1}, {1, GREATEST, 1},
            {1, 1, -1}, {1, 1, 1000001}, {1, 1, LEAST}, {1, 1, GREATEST},
        };
        for (int[] a : wrong) {
            check.due("wrong item", office.item(a[0], a[1], a[2]), PostRates.BAD);
        }
        check.due("items after wrong ones", office.count(0), 0);
        for (int number = 0; number < 80; number++) {
            int grams = number % 2 == 0 ? 0 : 100000;
            int value = number % 3 == 0 ? 0 : 1000000;
            check.due("item", office.item(1 + number % 9, grams, value), number);
        }
        check.due("item 81", office.item(1, 1, 1), PostRates.FULL);
        for (int[] a : wrong) {
            check.due("wrong item in a full office", office.item(a[0], a[1], a[2]), PostRates.BAD);
        }
        check.due("items of a full office", office.count(0), 80);
        check.due("kind of the last", office.told(79, 0), 8);
        check.due("told(80, 0)", office.told(80, 0), PostRates.BAD);
    }

    private static void posting() {
        PostRates office = new PostRates();
        office.tariff(0, 40);
        office.tariff(1, 2);
        office.item(6, 10, 10);
        office.item(4, 10, 10);
        office.day(7);
        for (int zone : new int[] {-1, 10, LEAST, GREATEST}) {
            check.due("post(0, " + zone + ")", office.post(0, zone), PostRates.BAD);
        }
        for (int item : new int[] {-1, 2, 80, LEAST, GREATEST}) {
            check.due("post(" + item + ", 0)", office.post(item, 0), PostRates.BAD);
        }
        check.due("acts of wrong posts", office.count(3), 0);
        check.due("still new", office.told(0, 4), 0);
        check.due("post(0, 9)", office.post(0, 9), 7 + 2 + 9);
        check.due("till of the first", office.till(), 58);
        check.due("under way", office.told(0, 4), 1);
        check.due("post(0, 9) again", office.post(0, 9), PostRates.STATE);
        check.due("post(0, 10) again", office.post(0, 10), PostRates.BAD);
        check.traceDue("post() again", office, 60, 0, 1);
        check.due("post(1, 0), there on the same day", office.post(1, 0), 7);
        check.due("it is under way, though", office.told(1, 4), 1);
        check.due("till of both", office.till(), 58 + 80);
        check.due("acts", office.count(3), 2);
        office.day(100);
        check.due("post of one that is there", office.post(1, 0), PostRates.STATE);
        check.due("till then", office.till(), 138);
    }

    private static void losing() {
        PostRates office = new PostRates();
        office.tariff(6, 1000);
        office.item(5, 10, 450);
        office.item(7, 10, 450);
        for (int item : new int[] {-1, 2, LEAST, GREATEST}) {
            check.due("lose(" + item + ")", office.lose(item), PostRates.BAD);
        }
        check.due("lose of a new one", office.lose(0), PostRates.STATE);
        check.due("acts of wrong losses", office.count(3), 0);
        office.post(0, 0);
        office.post(1, 0);
        long till = office.till();
        check.due("lose(0)", office.lose(0), 1000);
        check.due("till after the loss", office.till(), till - 1000);
        check.due("it is lost", office.told(0, 4), 3);
        check.due("lose(0) again", office.lose(0), PostRates.STATE);
        check.due("post of a lost one", office.post(0, 0), PostRates.STATE);
        check.traceDue("lose()", office, 52, 22, 2);
        check.due("the lost one does not arrive", office.day(10), 1);
        check.due("it is lost still", office.told(0, 4), 3);
        check.due("lose of one that is there", office.lose(1), PostRates.STATE);
        check.due("till at the end", office.till(), till - 1000);
        check.due("acts", office.count(3), 3);
    }

    private static void days() {
        PostRates office = new PostRates();
        office.item(6, 1, 1);
        office.item(6, 1, 1);
        office.item(6, 1, 1);
        office.item(4, 1, 1);
        office.post(0, 0);
        office.post(1, 1);
        office.post(3, 0);
        for (int n : new int[] {-1, 1001, LEAST, GREATEST}) {
            check.due("day(" + n + ")", office.day(n), PostRates.BAD);
        }
        check.due("wrong days pass not", office.count(1), 0);
        check.due("day(0)", office.day(0), 1);
        check.due("day(0) again", office.day(0), 0);
        check.due("day(1)", office.day(1), 0);
        check.due("on the very day", office.day(1), 1);
        check.due("there", office.told(0, 4), 2);
        check.due("not yet", office.told(1, 4), 1);
        check.due("long after the day", office.day(1000), 1);
        check.due("never posted", office.told(2, 4), 0);
        check.due("today", office.count(1), 1002);
        check.due("no item is asked", office.count(3), 3);
        check.traceDue("day()", office, 30, 10, 0, 41, 31, 11);
    }

    private static void telling() {
        PostRates office = new PostRates();
        office.item(8, 100000, 1000000);
        office.item(3, 12, 34);
        office.ask(0, 3, 11);
        int[] first = {8, 100000, 1000000, 5, 0, PostRates.BAD};
        int[] second = {3, 12, 34, 0, 0, PostRates.BAD};
        for (int what = 0; what <= 5; what++) {
            check.due("told(0, " + what + ")", office.told(0, what), first[what]);
            check.due("told(1, " + what + ")", office.told(1, what), second[what]);
        }
        for (int what : new int[] {-1, 6, LEAST, GREATEST}) {
            check.due("told(0, " + what + ")", office.told(0, what), PostRates.BAD);
        }
        for (int item : new int[] {-1, 2, LEAST, GREATEST}) {
            check.due("told(" + item + ", 0)", office.told(item, 0), PostRates.BAD);
        }
        office.day(5);
        office.post(0, 4);
        office.post(1, 4);
        check.due("day of one under way", office.told(0, 5), 5 + 7);
        office.lose(1);
        check.due("day of a lost one", office.told(1, 5), 5 + 2);
        office.day(500);
        check.due("day of one that is there", office.told(0, 5), 12);
        check.due("it is there", office.told(0, 4), 2);
    }

    private static void scanning() {
        PostRates office = new PostRates();
        office.item(1, 3, 1);
        for (int kind = 2; kind <= 9; kind++) {
            office.item(kind, 3, 1);
        }
        for (int item : new int[] {-1, 9, LEAST, GREATEST}) {
            check.due("scan(" + item + ", 1)", office.scan(item, 1), PostRates.BAD);
        }
        check.due("acts of wrong scans", office.count(3), 0);
        office.ask(1, 5, 9);
        check.due("ask() is no scan()", office.scanned(), 0);
        check.due("scan of a letter", office.scan(0, 1), PostRates.CAST);
        check.traceDue("scan of a letter", office);
        check.due("scanned() without one", office.scanned(), 0);
        check.due("acts with a cast", office.count(3), 2);
        for (int item = 1; item <= 8; item++) {
            for (int n : new int[] {5, 0, -1, LEAST, GREATEST}) {
                check.due("scan(" + item + ", " + n + ")", office.scan(item, n), 1);
                check.due("scanned() of " + item + " by " + n, office.scanned(),
                        Expected.scan(item + 1, 3, n));
                check.traceDue("scan()", office, Expected.TRACES[5][item]);
            }
        }
        check.due("acts", office.count(3), 42);
        office.scan(1, 2);
        office.scan(0, 7);
        office.scan(99, 7);
        office.ask(5, 5, 7);
        check.due("scanned() stays", office.scanned(), 83);
    }

    private static void theFirst() {
        PostRates office = new PostRates();
        office.item(9, 2, 0);
        office.item(4, 4, 0);
        office.item(6, 13, 0);
        office.item(1, 5, 0);
        office.item(1, 12, 0);
        check.due("first()", office.first(), 1);
        check.traceDue("first()", office, 94, 4, 44, 4, 4, 4, 4);
        check.due("one act", office.count(3), 1);
        office.post(1, 0);
        check.due("first() of like ones", office.first(), 3);
        check.traceDue("first() without a posted one", office, 94, 4, 4, 4, 4);
        office.post(3, 0);
        office.lose(3);
        check.due("first() behind a lost one", office.first(), 4);
        office.post(4, 0);
        check.due("first() of the rest", office.first(), 0);
        office.post(0, 0);
        office.day(50);
        check.due("first() of one", office.first(), 2);
        check.traceDue("first() of one", office, 4);
        office.post(2, 0);
        int acts = office.count(3);
        check.due("first() of none", office.first(), PostRates.BAD);
        check.due("first() of none is no act", office.count(3), acts);
        check.traceDue("first() of none", office, 60, 0, 1);
        firstOfAFullOffice();
    }

    private static void firstOfAFullOffice() {
        PostRates office = new PostRates();
        for (int i = 0; i < 80; i++) {
            office.item(9, 6, 0);
        }
        check.due("first() of 80", office.first(), 0);
        check.due("its trace", office.count(2), 160);
        check.due("trace(158)", office.trace(158), 94);
        check.due("trace(159)", office.trace(159), 4);
        check.due("trace(160)", office.trace(160), PostRates.BAD);
    }

    private static void theTill() {
        PostRates office = new PostRates();
        for (int k = 0; k < 8; k++) {
            office.tariff(k, 1000);
        }
        for (int i = 0; i < 80; i++) {
            office.item(9, 100000, 1000000);
            office.post(i, 9);
        }
        check.due("till() of the dearest", office.till(), 80L * 1815000);
        office.ask(0, 0, 9);
        check.due("ask() pays nothing", office.till(), 80L * 1815000);
        PostRates poor = new PostRates();
        poor.tariff(6, 5);
        poor.item(2, 0, 1000);
        poor.post(0, 0);
        poor.lose(0);
        check.due("till() below 0", poor.till(), -10);
    }

    private static void counting() {
        PostRates office = new PostRates();
        for (int what : new int[] {-1, 4, LEAST, GREATEST}) {
            check.due("count(" + what + ")", office.count(what), PostRates.BAD);
        }
        office.item(1, 1, 1);
        office.item(5, 1, 1);
        office.day(12);
        office.ask(1, 3, 1);
        check.due("items", office.count(0), 2);
        check.due("today", office.count(1), 12);
        check.due("entries", office.count(2), 7);
        check.due("acts: ask", office.count(3), 1);
        office.ask(0, 6, 1);
        check.due("acts: ask with a cast", office.count(3), 2);
        office.scan(0, 1);
        office.scan(1, 1);
        check.due("acts: scan", office.count(3), 4);
        office.post(0, 1);
        check.due("acts: post", office.count(3), 5);
        office.lose(0);
        check.due("acts: lose", office.count(3), 6);
        office.first();
        check.due("acts: first", office.count(3), 7);
        office.told(0, 1);
        office.trace(0);
        office.till();
        office.tariff(1, 1);
        office.item(1, 1, 1);
        office.count(3);
        check.due("acts: others", office.count(3), 7);
    }

    private static void officesAreApart() {
        PostRates one = new PostRates();
        PostRates other = new PostRates();
        one.tariff(0, 9);
        one.item(6, 1, 1);
        one.scan(0, 1);
        one.post(0, 1);
        one.day(4);
        check.due("other till()", other.till(), 0);
        check.due("other tariff", other.tariff(0, 0), 0);
        check.due("other scanned()", other.scanned(), 0);
        for (int what = 0; what <= 3; what++) {
            check.due("other count", other.count(what), 0);
        }
    }
}
