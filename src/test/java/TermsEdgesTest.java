/** The ranges that the Terms name: a test for each sentence, at its edges and just outside. */
public final class TermsEdgesTest {
    private static final int BAD = PostRates.BAD;
    private static final long ASK_BAD = Long.MIN_VALUE;
    private static final int[] FAR = {Integer.MIN_VALUE, Integer.MAX_VALUE};

    private static final Check check = new Check();

    public static void main(String[] args) {
        kindsOneToNineAreMade();
        kindZeroIsNeverMade();
        kindsBeyondAreNone();
        tariffsAreZeroAtFirst();
        tariffsWithinTheirRange();
        tariffsOutsideTheirRange();
        tariffsAreEight();
        gramsWithinTheirRange();
        gramsOutsideTheirRange();
        valuesWithinTheirRange();
        valuesOutsideTheirRange();
        stampsAreZeroAtFirst();
        stampsAreAnyInt();
        zonesWithinTheirRange();
        zonesOutsideTheirRange();
        tillAndTodayAreZeroAtFirst();
        itemsAreNewAtFirst();
        check.end();
    }

    private static void kindsOneToNineAreMade() {
        check.sentence("1 LETTER (ITEM) .. 9 LIVE (FRAGILE)");
        PostRates office = new PostRates();
        for (int kind = 1; kind <= 9; kind++) {
            check.due("item(" + kind + ", 1, 1)", office.item(kind, 1, 1), kind - 1);
            check.due("told(" + (kind - 1) + ", 0)", office.told(kind - 1, 0), kind);
        }
    }

    private static void kindZeroIsNeverMade() {
        check.sentence("0 ITEM (of none, never made)");
        PostRates office = new PostRates();
        check.due("item(0, 1, 1)", office.item(0, 1, 1), BAD);
        check.due("count(0)", office.count(0), 0);
        check.due("item(1, 1, 1)", office.item(1, 1, 1), 0);
        check.due("item(0, 0, 0)", office.item(0, 0, 0), BAD);
        check.due("count(0)", office.count(0), 1);
    }

    private static void kindsBeyondAreNone() {
        check.sentence("items of nine kinds");
        PostRates office = new PostRates();
        for (int kind : Offices.outside(9)) {
            check.due("item(" + kind + ", 1, 1)", office.item(kind, 1, 1), BAD);
            check.due("count(0)", office.count(0), 0);
        }
    }

    private static void tariffsAreZeroAtFirst() {
        check.sentence("TARIFFS T0 .. T7 are 0 .. 1000 (0 at first)");
        PostRates office = Offices.withAllKinds(100000, 1000);
        check.due("cost of a parcel", office.ask(5, 0, 9), 0);
        check.due("cost of a letter", office.ask(0, 0, 9), 0);
        check.due("cost of an express", office.ask(2, 0, 9), 0);
        check.due("cover of a letter", office.ask(0, 2, 0), 0);
        check.due("stamps of a letter", office.ask(0, 3, 1), 0);
        for (int k = 0; k <= 7; k++) {
            check.due("tariff(" + k + ", 1000)", office.tariff(k, 1000), 0);
        }
    }

    private static void tariffsWithinTheirRange() {
        check.sentence("TARIFFS T0 .. T7 are 0 .. 1000");
        PostRates office = new PostRates();
        for (int k = 0; k <= 7; k++) {
            check.due("tariff(" + k + ", 1000)", office.tariff(k, 1000), 0);
            check.due("tariff(" + k + ", 0)", office.tariff(k, 0), 1000);
            check.due("tariff(" + k + ", 1)", office.tariff(k, 1), 0);
            check.due("tariff(" + k + ", 999)", office.tariff(k, 999), 1);
        }
        for (int k = 0; k <= 7; k++) {
            check.due("tariff(" + k + ", 0)", office.tariff(k, 0), 999);
        }
    }

    private static void tariffsOutsideTheirRange() {
        check.sentence("TARIFFS T0 .. T7 are 0 .. 1000: no less, no more");
        PostRates office = new PostRates();
        for (int k = 0; k <= 7; k++) {
            office.tariff(k, 7 + k);
            for (int v : Offices.outside(1000)) {
                check.due("tariff(" + k + ", " + v + ")", office.tariff(k, v), BAD);
            }
            check.due("tariff(" + k + ", 0)", office.tariff(k, 0), 7 + k);
        }
    }

    private static void tariffsAreEight() {
        check.sentence("TARIFFS T0 .. T7");
        PostRates office = new PostRates();
        for (int k : Offices.outside(7)) {
            check.due("tariff(" + k + ", 1)", office.tariff(k, 1), BAD);
        }
        for (int k = 0; k <= 7; k++) {
            check.due("tariff(" + k + ", 1)", office.tariff(k, 1), 0);
        }
    }

    private static void gramsWithinTheirRange() {
        check.sentence("GRAMS (0 .. 100000)");
        for (int kind = 1; kind <= 9; kind++) {
            PostRates office = new PostRates();
            check.due("item(" + kind + ", 0, 1)", office.item(kind, 0, 1), 0);
            check.due("item(" + kind + ", 100000, 1)", office.item(kind, 100000, 1), 1);
            check.due("told(0, 1)", office.told(0, 1), 0);
            check.due("told(1, 1)", office.told(1, 1), 100000);
        }
    }

    private static void gramsOutsideTheirRange() {
        check.sentence("GRAMS (0 .. 100000): no less, no more");
        for (int kind = 1; kind <= 9; kind++) {
            PostRates office = new PostRates();
            for (int grams : Offices.outside(100000)) {
                check.due("item(" + kind + ", " + grams + ", 1)", office.item(kind, grams, 1), BAD);
            }
            check.due("count(0)", office.count(0), 0);
        }
    }

    private static void valuesWithinTheirRange() {
        check.sentence("VALUE (0 .. 1000000)");
        for (int kind = 1; kind <= 9; kind++) {
            PostRates office = new PostRates();
            check.due("item(" + kind + ", 1, 0)", office.item(kind, 1, 0), 0);
            check.due("item(" + kind + ", 1, 1000000)", office.item(kind, 1, 1000000), 1);
            check.due("told(0, 2)", office.told(0, 2), 0);
            check.due("told(1, 2)", office.told(1, 2), 1000000);
        }
    }

    private static void valuesOutsideTheirRange() {
        check.sentence("VALUE (0 .. 1000000): no less, no more");
        for (int kind = 1; kind <= 9; kind++) {
            PostRates office = new PostRates();
            for (int value : Offices.outside(1000000)) {
                check.due("item(" + kind + ", 1, " + value + ")", office.item(kind, 1, value), BAD);
            }
            check.due("count(0)", office.count(0), 0);
        }
    }

    private static void stampsAreZeroAtFirst() {
        check.sentence("STAMPS (an int, 0 at first)");
        PostRates office = Offices.withAllKinds(100, 100, 7, 1000);
        for (int item = 0; item <= 8; item++) {
            check.due("told(" + item + ", 3)", office.told(item, 3), 0);
        }
        check.due("stamps of a letter with 0 more", office.ask(0, 3, 0), 0);
        check.due("stamps of a parcel with 0 more", office.ask(5, 3, 0), 0);
    }

    private static void stampsAreAnyInt() {
        check.sentence("STAMPS (an int)");
        for (int n : FAR) {
            PostRates office = Offices.withItem(6, 1, 1);
            check.due("ask(0, 3, " + n + ")", office.ask(0, 3, n), n);
            check.due("told(0, 3)", office.told(0, 3), n);
        }
        PostRates office = Offices.withItem(1, 1, 1);
        check.due("a letter's least", office.ask(0, 3, Integer.MIN_VALUE), Integer.MIN_VALUE);
        check.due("told(0, 3)", office.told(0, 3), Integer.MIN_VALUE);
    }

    private static void zonesWithinTheirRange() {
        check.sentence("A ZONE z is 0 .. 9");
        PostRates office = Offices.withAllKinds(0, 0, 1, 100);
        check.due("cost to zone 0", office.ask(5, 0, 0), 0);
        check.due("cost to zone 9", office.ask(5, 0, 9), 900);
        check.due("days to zone 0", office.ask(5, 1, 0), 2);
        check.due("days to zone 9", office.ask(5, 1, 9), 11);
        check.due("post(5, 0)", office.post(5, 0), 2);
        check.due("post(6, 9)", office.post(6, 9), 11);
    }

    private static void zonesOutsideTheirRange() {
        check.sentence("A ZONE z is 0 .. 9: no less, no more");
        PostRates office = Offices.withAllKinds(1, 1);
        for (int zone : Offices.outside(9)) {
            for (int item = 0; item <= 8; item++) {
                check.due("ask(" + item + ", 0, " + zone + ")", office.ask(item, 0, zone), ASK_BAD);
                check.due("ask(" + item + ", 1, " + zone + ")", office.ask(item, 1, zone), ASK_BAD);
                check.due("post(" + item + ", " + zone + ")", office.post(item, zone), BAD);
                check.due("told(" + item + ", 4)", office.told(item, 4), 0);
            }
        }
    }

    private static void tillAndTodayAreZeroAtFirst() {
        check.sentence("THE TILL is a long, TODAY a day, both 0 at first");
        PostRates office = Offices.withItem(1, 1, 1);
        check.due("till()", office.till(), 0);
        check.due("count(1)", office.count(1), 0);
        check.due("post(0, 0), the first day behind day 0", office.post(0, 0), 1);
    }

    private static void itemsAreNewAtFirst() {
        check.sentence("An ITEM is NEW, UNDER WAY, THERE or LOST");
        PostRates office = Offices.withAllKinds(1, 1);
        for (int item = 0; item <= 8; item++) {
            check.due("told(" + item + ", 4)", office.told(item, 4), 0);
            office.post(item, 0);
            check.due("told(" + item + ", 4) once posted", office.told(item, 4), 1);
        }
        office.lose(0);
        check.due("told(0, 4) once lost", office.told(0, 4), 3);
        office.day(1000);
        for (int item = 1; item <= 8; item++) {
            check.due("told(" + item + ", 4) in the end", office.told(item, 4), 2);
        }
        check.due("told(0, 4) in the end", office.told(0, 4), 3);
    }
}
