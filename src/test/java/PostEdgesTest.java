/** Promises 6 to 8: a test for each sentence that names an edge or a refusal. */
public final class PostEdgesTest {
    private static final int BAD = PostRates.BAD;
    private static final int FULL = PostRates.FULL;
    private static final int STATE = PostRates.STATE;

    private static final Check check = new Check();

    public static void main(String[] args) {
        postToTheDayBehindToday();
        postOnTheSameDay();
        postPaysTheCost();
        postOfNoItem();
        postToNoZone();
        postOfOneNotNew();
        postIsBadAheadOfState();
        refusedPostsChangeNothing();
        postAsksCostThenDays();
        losePaysTheCover();
        loseOfNoItem();
        loseOfOneNotUnderWay();
        refusedLossesChangeNothing();
        loseOfOneLongDue();
        daysWithinTheirRange();
        daysOutsideTheirRange();
        thereOnTheVeryDay();
        thereBehindTheDay();
        onlyThoseUnderWayArrive();
        allEightyArriveAtOnce();
        noDayIsTooFarWithin512Calls();
        beyondTheLastDay();
        check.end();
    }

    private static void postToTheDayBehindToday() {
        check.sentence("Promise 6: it is UNDER WAY to the day so many behind TODAY: that day");
        PostRates office = Offices.withAllKinds(1, 1);
        office.day(1000);
        int[] want = {1005, 1005, 1004, 1002, 1002, 1011, 1011, 1012, 1007};
        for (int item = 0; item <= 8; item++) {
            check.due("post(" + item + ", 9)", office.post(item, 9), want[item]);
            check.due("told(" + item + ", 4)", office.told(item, 4), 1);
            check.due("told(" + item + ", 5)", office.told(item, 5), want[item]);
        }
    }

    private static void postOnTheSameDay() {
        check.sentence("Promise 6: UNDER WAY to the day so many behind TODAY: 0 of NIGHT");
        PostRates office = Offices.withItem(4, 1, 1);
        check.due("post(0, 0)", office.post(0, 0), 0);
        check.due("told(0, 4)", office.told(0, 4), 1);
        check.due("told(0, 5)", office.told(0, 5), 0);
        check.due("day(0)", office.day(0), 1);
        check.due("told(0, 4) then", office.told(0, 4), 2);
    }

    private static void postPaysTheCost() {
        check.sentence("Promise 6: COST is asked, it comes into THE TILL");
        PostRates office = Offices.withAllKinds(1000, 10, 0, 10, 1, 1, 2, 1, 3, 1000, 4, 3, 5, 2);
        long[] costs = {0, 0, 3, 3, 93, 31, 31, 32, 48};
        long till = 0;
        for (int item = 0; item <= 8; item++) {
            office.post(item, 9);
            till += costs[item];
            check.due("till() behind post(" + item + ", 9)", office.till(), till);
        }
    }

    private static void postOfNoItem() {
        check.sentence("Promise 6: BAD: ITEM");
        PostRates office = Offices.withAllKinds(1, 1);
        for (int item : Offices.outside(8)) {
            check.due("post(" + item + ", 0)", office.post(item, 0), BAD);
        }
        PostRates full = Offices.full();
        for (int item : Offices.outside(79)) {
            check.due("post(" + item + ", 0)", full.post(item, 0), BAD);
        }
    }

    private static void postToNoZone() {
        check.sentence("Promise 6: BAD: ZONE");
        PostRates office = Offices.withItem(6, 1, 1);
        for (int zone : Offices.outside(9)) {
            check.due("post(0, " + zone + ")", office.post(0, zone), BAD);
        }
        check.due("post(0, 9)", office.post(0, 9), 11);
    }

    private static void postOfOneNotNew() {
        check.sentence("Promise 6: STATE: it is not NEW");
        PostRates office = Offices.withItem(6, 1, 1);
        office.item(6, 1, 1);
        office.post(0, 0);
        office.post(1, 0);
        check.due("under way", office.post(0, 0), STATE);
        office.lose(0);
        check.due("lost", office.post(0, 0), STATE);
        office.day(2);
        check.due("there", office.post(1, 0), STATE);
    }

    private static void postIsBadAheadOfState() {
        check.sentence("Promise 6: BAD: ZONE, of one that is not NEW, too");
        PostRates office = Offices.withItem(6, 1, 1);
        office.post(0, 0);
        check.due("post(0, 10)", office.post(0, 10), BAD);
        check.due("post(0, -1)", office.post(0, -1), BAD);
        check.due("post(0, 9)", office.post(0, 9), STATE);
    }

    private static void refusedPostsChangeNothing() {
        check.sentence("Promise 6: BAD and STATE change nothing");
        PostRates office = Offices.withItem(6, 1, 1, 0, 7);
        office.post(0, 10);
        office.post(1, 0);
        check.due("told(0, 4)", office.told(0, 4), 0);
        check.due("told(0, 5)", office.told(0, 5), BAD);
        check.due("till()", office.till(), 0);
        check.due("count(3)", office.count(3), 0);
        office.post(0, 0);
        office.day(1);
        office.post(0, 9);
        check.due("told(0, 5) behind STATE", office.told(0, 5), 2);
        check.due("told(0, 4) behind STATE", office.told(0, 4), 1);
        check.due("till() behind STATE", office.till(), 7);
        check.due("count(3) behind STATE", office.count(3), 1);
    }

    private static void postAsksCostThenDays() {
        check.sentence("Promise 6: COST is asked; DAYS are asked");
        PostRates office = Offices.withItem(9, 1, 1);
        office.item(5, 1, 1);
        office.post(0, 9);
        check.traceDue("post(0, 9)", office, 90, 80, 60, 0, 91, 81, 1);
        office.post(1, 9);
        check.traceDue("post(1, 9)", office, 50, 30, 10, 0, 41, 31, 11);
        check.due("count(3), one for each", office.count(3), 2);
    }

    private static void losePaysTheCover() {
        check.sentence("Promise 7: COVER is asked and goes out of THE TILL: it");
        PostRates office = Offices.withAllKinds(1, 7, 6, 5);
        int[] covers = {5, 10, 10, 10, 110, 5, 2, 2, 4};
        for (int item = 0; item <= 8; item++) {
            office.post(item, 9);
            long till = office.till();
            check.due("lose(" + item + ")", office.lose(item), covers[item]);
            check.due("till() behind it", office.till(), till - covers[item]);
            check.due("told(" + item + ", 4)", office.told(item, 4), 3);
        }
    }

    private static void loseOfNoItem() {
        check.sentence("Promise 7: BAD");
        PostRates office = Offices.withAllKinds(1, 1);
        for (int item : Offices.outside(8)) {
            check.due("lose(" + item + ")", office.lose(item), BAD);
        }
        PostRates full = Offices.full();
        for (int item : Offices.outside(79)) {
            check.due("lose(" + item + ")", full.lose(item), BAD);
        }
    }

    private static void loseOfOneNotUnderWay() {
        check.sentence("Promise 7: STATE: it is not UNDER WAY");
        PostRates office = Offices.withItem(6, 1, 1);
        office.item(6, 1, 1);
        check.due("new", office.lose(0), STATE);
        office.post(0, 0);
        office.post(1, 0);
        check.due("under way", office.lose(0), 0);
        check.due("lost", office.lose(0), STATE);
        office.day(2);
        check.due("there", office.lose(1), STATE);
    }

    private static void refusedLossesChangeNothing() {
        check.sentence("Promise 7: BAD and STATE change nothing");
        PostRates office = Offices.withItem(6, 1, 9, 6, 9);
        office.lose(0);
        office.lose(1);
        check.due("told(0, 4)", office.told(0, 4), 0);
        check.due("till()", office.till(), 0);
        check.due("count(3)", office.count(3), 0);
        office.post(0, 0);
        office.lose(0);
        office.lose(0);
        check.due("till() behind a second loss", office.till(), -9);
        check.due("count(3)", office.count(3), 2);
        check.due("told(0, 5)", office.told(0, 5), 2);
    }

    private static void loseOfOneLongDue() {
        check.sentence("Promise 7: An ITEM UNDER WAY is LOST, on the very day, too");
        PostRates office = Offices.withItem(4, 1, 3, 6, 3);
        office.day(5);
        check.due("post(0, 0)", office.post(0, 0), 5);
        check.due("lose(0), no day has gone by", office.lose(0), 6);
        check.due("day(0)", office.day(0), 0);
        check.due("told(0, 4)", office.told(0, 4), 3);
    }

    private static void daysWithinTheirRange() {
        check.sentence("Promise 8: n days (0 .. 1000) go by");
        PostRates office = new PostRates();
        check.due("day(0)", office.day(0), 0);
        check.due("count(1)", office.count(1), 0);
        check.due("day(1000)", office.day(1000), 0);
        check.due("count(1)", office.count(1), 1000);
        check.due("day(1)", office.day(1), 0);
        check.due("count(1)", office.count(1), 1001);
    }

    private static void daysOutsideTheirRange() {
        check.sentence("Promise 8: BAD");
        PostRates office = Offices.withItem(4, 1, 1);
        office.day(3);
        office.post(0, 0);
        for (int n : Offices.outside(1000)) {
            check.due("day(" + n + ")", office.day(n), BAD);
            check.due("count(1)", office.count(1), 3);
            check.due("told(0, 4)", office.told(0, 4), 1);
        }
    }

    private static void thereOnTheVeryDay() {
        check.sentence("Promise 8: those UNDER WAY to TODAY are THERE then");
        PostRates office = Offices.withItem(6, 1, 1);
        office.post(0, 0);
        check.due("the day before", office.day(1), 0);
        check.due("told(0, 4)", office.told(0, 4), 1);
        check.due("the very day", office.day(1), 1);
        check.due("told(0, 4)", office.told(0, 4), 2);
        check.due("only once", office.day(1), 0);
    }

    private static void thereBehindTheDay() {
        check.sentence("Promise 8: or a day before are THERE then: how many");
        PostRates office = Offices.withAllKinds(1, 1);
        for (int item = 0; item <= 8; item++) {
            office.post(item, 9);
        }
        check.due("day(4): two to day 2, one to day 4", office.day(4), 3);
        check.due("day(3): two to day 5, one to day 7", office.day(3), 3);
        check.due("day(1000): the rest", office.day(1000), 3);
    }

    private static void onlyThoseUnderWayArrive() {
        check.sentence("Promise 8: those UNDER WAY: none that is NEW, THERE or LOST");
        PostRates office = Offices.withAllKinds(1, 1);
        office.post(1, 0);
        office.lose(1);
        office.post(2, 0);
        check.due("day(1000)", office.day(1000), 1);
        check.due("day(1000) again", office.day(1000), 0);
        check.due("new", office.told(0, 4), 0);
        check.due("lost", office.told(1, 4), 3);
        check.due("there", office.told(2, 4), 2);
        check.due("told(2, 5)", office.told(2, 5), 1);
    }

    private static void allEightyArriveAtOnce() {
        check.sentence("Promise 8: how many: none, all 80");
        PostRates office = Offices.full();
        for (int item = 0; item < 80; item++) {
            office.post(item, 9);
        }
        check.due("day(1)", office.day(1), 0);
        check.due("day(999)", office.day(999), 80);
        check.due("told(79, 4)", office.told(79, 4), 2);
    }

    private static void noDayIsTooFarWithin512Calls() {
        check.sentence("Promise 8: FULL: beyond day 1000000 (not before)");
        PostRates office = new PostRates();
        for (int i = 0; i < 511; i++) {
            check.due("day(1000)", office.day(1000), 0);
        }
        check.due("count(1)", office.count(1), 511000);
    }

    /** Takes more calls than an object is promised for: no run of 512 comes to the last day. */
    private static void beyondTheLastDay() {
        check.sentence("Promise 8: FULL: beyond day 1000000");
        PostRates office = Offices.withItem(4, 1, 1);
        for (int i = 0; i < 999; i++) {
            office.day(1000);
        }
        office.day(999);
        office.post(0, 0);
        check.due("day(2)", office.day(2), FULL);
        check.due("day(1000)", office.day(1000), FULL);
        check.due("day(1001)", office.day(1001), BAD);
        check.due("count(1)", office.count(1), 999999);
        check.due("told(0, 4)", office.told(0, 4), 1);
        check.due("day(1)", office.day(1), 1);
        check.due("count(1)", office.count(1), 1000000);
        check.due("day(1) on the last", office.day(1), FULL);
        check.due("day(0) on the last", office.day(0), 0);
    }
}
