/** The limits, cuts and wraps of the BODIES: a test for each sentence, all answers worked out by hand. */
public final class BodiesEdgesTest {
    private static final int LEAST = Integer.MIN_VALUE;
    private static final int GREATEST = Integer.MAX_VALUE;
    private static final int COST = 0, DAYS = 1, COVER = 2, STAMP = 3, RANK = 4, SCAN = 5, CODE = 6;
    private static final int LETTER = 1, REGISTERED = 2, EXPRESS = 3, NIGHT = 4, COURIER = 5;
    private static final int PARCEL = 6, BULKY = 7, FRAGILE = 8, LIVE = 9;

    private static final Check check = new Check();

    public static void main(String[] args) {
        costs();
        days();
        covers();
        stamps();
        ranks();
        scans();
        codes();
        check.end();
    }

    private static void costs() {
        gramsByHundredAreCut();
        gramsByThousandAreCut();
        valueByTenIsCut();
        liveCostsItsHalfMoreCut();
        letterCostIsNotBelowZero();
        expressDoublesTheLimitedCost();
        courierAddsTenForEachZone();
        theDearestCostsFitAnInt();
    }

    private static void days() {
        letterDaysAreCut();
        expressDaysAreNotBelowOne();
        nightDaysAreCut();
        liveDaysAreOfHalfTheZone();
        fragileDaysAreOneMore();
    }

    private static void covers() {
        coverIsValueUpToT6();
        registeredDoublesTheLimitedCover();
        courierCoversAHundredMore();
        bulkyCoverIsCut();
        liveCoverIsTwiceTheCutOne();
    }

    private static void stamps() {
        itemStampsWrapUpwards();
        itemStampsWrapDownwards();
        letterStampsAboveT7BecomeZero();
        letterStampsAreHeldToT7OfNow();
        letterStampsBelowZeroStay();
        letterStampsThatWrapAreLookedAtThen();
        parcelStampsAboveT7Stay();
        expressOneMoreWraps();
        courierStampsTwice();
        fragileStampsAreCut();
    }

    private static void ranks() {
        rankIsTheRestOfSeven();
        nightRankIsOneMore();
        liveRankIsThreeTimes();
    }

    private static void scans() {
        scanWraps();
        scanByNothing();
        fragileScanWraps();
        scannedKinds();
    }

    private static void codes() {
        codeOfEachKind();
        liveCodeTakesItsOwnRank();
    }

    private static void asked(PostRates office, int member, int n, long want) {
        check.due("ask(0, " + member + ", " + n + ")", office.ask(0, member, n), want);
    }

    /** The answer of one member of a new item with these grams, value and tariffs. */
    private static void answers(int kind, int grams, int value, int member, int n, long want, int... tariffs) {
        PostRates office = Offices.withItem(kind, grams, value, tariffs);
        check.due("kind " + kind + " of " + grams + " grams, value " + value + ": ask(0, " + member + ", " + n + ")",
                office.ask(0, member, n), want);
    }

    private static void gramsByHundredAreCut() {
        check.sentence("GRAMS / 100 * T2");
        answers(PARCEL, 0, 0, COST, 0, 0, 2, 7);
        answers(PARCEL, 99, 0, COST, 0, 0, 2, 7);
        answers(PARCEL, 100, 0, COST, 0, 7, 2, 7);
        answers(PARCEL, 199, 0, COST, 0, 7, 2, 7);
        answers(PARCEL, 200, 0, COST, 0, 14, 2, 7);
        answers(PARCEL, 99999, 0, COST, 0, 999 * 7, 2, 7);
        answers(PARCEL, 100000, 0, COST, 0, 1000 * 7, 2, 7);
        answers(LETTER, 199, 0, COST, 0, 7, 2, 7);
    }

    private static void gramsByThousandAreCut() {
        check.sentence("PARCEL: ABOVE and GRAMS / 1000 * T5");
        answers(PARCEL, 999, 0, COST, 0, 0, 5, 7);
        answers(PARCEL, 1000, 0, COST, 0, 7, 5, 7);
        answers(PARCEL, 1999, 0, COST, 0, 7, 5, 7);
        answers(PARCEL, 2000, 0, COST, 0, 14, 5, 7);
        answers(PARCEL, 99999, 0, COST, 0, 99 * 7, 5, 7);
        answers(PARCEL, 100000, 0, COST, 0, 100 * 7, 5, 7);
        answers(LETTER, 100000, 0, COST, 0, 0, 5, 7);
    }

    private static void valueByTenIsCut() {
        check.sentence("FRAGILE: ABOVE and VALUE / 10");
        answers(FRAGILE, 0, 0, COST, 0, 0);
        answers(FRAGILE, 0, 9, COST, 0, 0);
        answers(FRAGILE, 0, 10, COST, 0, 1);
        answers(FRAGILE, 0, 19, COST, 0, 1);
        answers(FRAGILE, 0, 999999, COST, 0, 99999);
        answers(FRAGILE, 0, 1000000, COST, 0, 100000);
        answers(BULKY, 0, 1000000, COST, 0, 0);
    }

    private static void liveCostsItsHalfMoreCut() {
        check.sentence("LIVE: ABOVE, and half of it (once asked, cut)");
        answers(LIVE, 0, 0, COST, 0, 0, 0, 0);
        answers(LIVE, 0, 0, COST, 0, 1, 0, 1);
        answers(LIVE, 0, 0, COST, 0, 3, 0, 2);
        answers(LIVE, 0, 0, COST, 0, 4, 0, 3);
        answers(LIVE, 0, 10, COST, 0, 3, 0, 1);
        PostRates office = Offices.withItem(LIVE, 0, 0);
        office.ask(0, COST, 0);
        check.traceDue("once asked", office, 90, 80, 60, 0);
    }

    private static void letterCostIsNotBelowZero() {
        check.sentence("LETTER: ABOVE less T3, but 0, if that is below 0");
        for (int kind : new int[] {LETTER, REGISTERED}) {
            answers(kind, 0, 0, COST, 0, 1, 0, 10, 3, 9);
            answers(kind, 0, 0, COST, 0, 0, 0, 10, 3, 10);
            answers(kind, 0, 0, COST, 0, 0, 0, 10, 3, 11);
            answers(kind, 0, 0, COST, 0, 0, 0, 0, 3, 1000);
            answers(kind, 0, 0, COST, 0, 10, 0, 10, 3, 0);
        }
        answers(PARCEL, 0, 0, COST, 0, 10, 0, 10, 3, 11);
    }

    private static void expressDoublesTheLimitedCost() {
        check.sentence("EXPRESS: twice ABOVE, and T4");
        for (int kind : new int[] {EXPRESS, NIGHT, COURIER}) {
            answers(kind, 0, 0, COST, 0, 2 * 1 + 5, 0, 10, 3, 9, 4, 5);
            answers(kind, 0, 0, COST, 0, 5, 0, 10, 3, 10, 4, 5);
            answers(kind, 0, 0, COST, 0, 5, 0, 10, 3, 11, 4, 5);
            answers(kind, 0, 0, COST, 0, 1000, 0, 0, 3, 1000, 4, 1000);
            answers(kind, 0, 0, COST, 0, 0, 0, 10, 3, 1000, 4, 0);
        }
    }

    private static void courierAddsTenForEachZone() {
        check.sentence("COURIER: ABOVE and 10 z");
        answers(COURIER, 0, 0, COST, 0, 0);
        answers(COURIER, 0, 0, COST, 1, 10);
        answers(COURIER, 0, 0, COST, 9, 90);
        answers(NIGHT, 0, 0, COST, 9, 0);
    }

    private static void theDearestCostsFitAnInt() {
        check.sentence("All is reckoned in ints");
        int[] dear = {0, 1000, 1, 1000, 2, 1000, 4, 1000, 5, 1000};
        answers(LETTER, 100000, 1000000, COST, 9, 1010000, dear);
        answers(COURIER, 100000, 1000000, COST, 9, 2 * 1010000 + 1000 + 90, dear);
        answers(PARCEL, 100000, 1000000, COST, 9, 1110000, dear);
        answers(FRAGILE, 100000, 1000000, COST, 9, 1210000, dear);
        answers(LIVE, 100000, 1000000, COST, 9, 1815000, dear);
    }

    private static void daysOfZones(int kind, int... want) {
        for (int zone = 0; zone < want.length; zone++) {
            answers(kind, 1, 1, DAYS, zone, want[zone]);
        }
    }

    private static void letterDaysAreCut() {
        check.sentence("LETTER: 1 + z / 2");
        daysOfZones(LETTER, 1, 1, 2, 2, 3, 3, 4, 4, 5, 5);
        daysOfZones(REGISTERED, 1, 1, 2, 2, 3, 3, 4, 4, 5, 5);
    }

    private static void expressDaysAreNotBelowOne() {
        check.sentence("EXPRESS: ABOVE less 1, but 1, if that is below 1");
        daysOfZones(EXPRESS, 1, 1, 1, 1, 2, 2, 3, 3, 4, 4);
    }

    private static void nightDaysAreCut() {
        check.sentence("NIGHT: half of ABOVE");
        daysOfZones(NIGHT, 0, 0, 0, 0, 1, 1, 1, 1, 2, 2);
        daysOfZones(COURIER, 0, 0, 0, 0, 1, 1, 1, 1, 2, 2);
    }

    private static void liveDaysAreOfHalfTheZone() {
        check.sentence("LIVE: ABOVE of z / 2");
        daysOfZones(LIVE, 3, 3, 4, 4, 5, 5, 6, 6, 7, 7);
    }

    private static void fragileDaysAreOneMore() {
        check.sentence("ITEM: 2 + z. FRAGILE: ABOVE and 1");
        daysOfZones(PARCEL, 2, 3, 4, 5, 6, 7, 8, 9, 10, 11);
        daysOfZones(BULKY, 2, 3, 4, 5, 6, 7, 8, 9, 10, 11);
        daysOfZones(FRAGILE, 3, 4, 5, 6, 7, 8, 9, 10, 11, 12);
    }

    private static void coverIsValueUpToT6() {
        check.sentence("ITEM: VALUE, or T6, if that is less");
        for (int kind : new int[] {LETTER, PARCEL}) {
            answers(kind, 1, 499, COVER, 0, 499, 6, 500);
            answers(kind, 1, 500, COVER, 0, 500, 6, 500);
            answers(kind, 1, 501, COVER, 0, 500, 6, 500);
            answers(kind, 1, 0, COVER, 0, 0, 6, 1000);
            answers(kind, 1, 1000000, COVER, 0, 0, 6, 0);
            answers(kind, 1, 1000000, COVER, 0, 1000, 6, 1000);
        }
    }

    private static void registeredDoublesTheLimitedCover() {
        check.sentence("REGISTERED: twice ABOVE");
        for (int kind : new int[] {REGISTERED, EXPRESS, NIGHT}) {
            answers(kind, 1, 499, COVER, 0, 998, 6, 500);
            answers(kind, 1, 501, COVER, 0, 1000, 6, 500);
            answers(kind, 1, 0, COVER, 0, 0, 6, 500);
            answers(kind, 1, 1000000, COVER, 0, 2000, 6, 1000);
        }
    }

    private static void courierCoversAHundredMore() {
        check.sentence("COURIER: ABOVE and 100");
        answers(COURIER, 1, 0, COVER, 0, 100, 6, 1000);
        answers(COURIER, 1, 1000000, COVER, 0, 100, 6, 0);
        answers(COURIER, 1, 1000000, COVER, 0, 2100, 6, 1000);
    }

    private static void bulkyCoverIsCut() {
        check.sentence("BULKY: half of ABOVE");
        for (int kind : new int[] {BULKY, FRAGILE}) {
            answers(kind, 1, 0, COVER, 0, 0, 6, 1000);
            answers(kind, 1, 1, COVER, 0, 0, 6, 1000);
            answers(kind, 1, 2, COVER, 0, 1, 6, 1000);
            answers(kind, 1, 3, COVER, 0, 1, 6, 1000);
            answers(kind, 1, 1000, COVER, 0, 249, 6, 499);
        }
    }

    private static void liveCoverIsTwiceTheCutOne() {
        check.sentence("LIVE: ABOVE, and that of ABOVE once more (asked twice)");
        answers(LIVE, 1, 1, COVER, 0, 0, 6, 1000);
        answers(LIVE, 1, 2, COVER, 0, 2, 6, 1000);
        answers(LIVE, 1, 3, COVER, 0, 2, 6, 1000);
        answers(LIVE, 1, 1000000, COVER, 0, 1000, 6, 1000);
        PostRates office = Offices.withItem(LIVE, 1, 1);
        office.ask(0, COVER, 0);
        check.traceDue("asked twice", office, 92, 72, 2, 72, 2);
    }

    private static void itemStampsWrapUpwards() {
        check.sentence("ITEM: STAMPS become n more (wrapping)");
        for (int kind : new int[] {PARCEL, BULKY}) {
            PostRates office = Offices.withItem(kind, 1, 1);
            asked(office, STAMP, GREATEST, GREATEST);
            asked(office, STAMP, 1, LEAST);
            asked(office, STAMP, GREATEST, -1);
            asked(office, STAMP, LEAST, GREATEST);
            asked(office, STAMP, GREATEST, -2);
        }
    }

    private static void itemStampsWrapDownwards() {
        check.sentence("ITEM: STAMPS become n more (wrapping, below the least)");
        PostRates office = Offices.withItem(PARCEL, 1, 1);
        asked(office, STAMP, LEAST, LEAST);
        asked(office, STAMP, -1, GREATEST);
        asked(office, STAMP, 0, GREATEST);
        check.due("told(0, 3)", office.told(0, 3), GREATEST);
    }

    private static void letterStampsAboveT7BecomeZero() {
        check.sentence("if STAMPS are above T7 then, they become 0");
        for (int kind : new int[] {LETTER, REGISTERED}) {
            PostRates office = Offices.withItem(kind, 1, 1, 7, 5);
            asked(office, STAMP, 4, 4);
            asked(office, STAMP, 1, 5);
            asked(office, STAMP, 0, 5);
            asked(office, STAMP, 1, 0);
            asked(office, STAMP, 6, 0);
            check.due("told(0, 3)", office.told(0, 3), 0);
        }
        PostRates highest = Offices.withItem(LETTER, 1, 1, 7, 1000);
        asked(highest, STAMP, 1000, 1000);
        asked(highest, STAMP, 1, 0);
        PostRates lowest = Offices.withItem(LETTER, 1, 1, 7, 0);
        asked(lowest, STAMP, 0, 0);
        asked(lowest, STAMP, 1, 0);
        asked(lowest, STAMP, GREATEST, 0);
    }

    private static void letterStampsAreHeldToT7OfNow() {
        check.sentence("if STAMPS are above T7 then");
        PostRates office = Offices.withItem(LETTER, 1, 1, 7, 9);
        asked(office, STAMP, 9, 9);
        office.tariff(7, 8);
        check.due("told(0, 3), not stamped since", office.told(0, 3), 9);
        asked(office, STAMP, 0, 0);
        PostRates less = Offices.withItem(LETTER, 1, 1, 7, 9);
        asked(less, STAMP, 9, 9);
        less.tariff(7, 8);
        asked(less, STAMP, -1, 8);
    }

    private static void letterStampsBelowZeroStay() {
        check.sentence("if STAMPS are above T7 then: those below 0 are not");
        PostRates office = Offices.withItem(LETTER, 1, 1);
        asked(office, STAMP, -1, -1);
        asked(office, STAMP, 1, 0);
        asked(office, STAMP, LEAST, LEAST);
        asked(office, STAMP, 0, LEAST);
    }

    private static void letterStampsThatWrapAreLookedAtThen() {
        check.sentence("LETTER: ABOVE of n (wrapping); if STAMPS are above T7 then, they become 0");
        PostRates down = Offices.withItem(LETTER, 1, 1, 7, 1000);
        asked(down, STAMP, LEAST, LEAST);
        asked(down, STAMP, -1, 0);
        PostRates up = Offices.withItem(LETTER, 1, 1, 7, 1000);
        asked(up, STAMP, 2, 2);
        asked(up, STAMP, GREATEST, LEAST + 1);
    }

    private static void parcelStampsAboveT7Stay() {
        check.sentence("BODIES of a MEMBER: T7 is of LETTER and those of it alone");
        for (int kind : new int[] {PARCEL, BULKY, FRAGILE, LIVE}) {
            PostRates office = Offices.withItem(kind, 1, 1, 7, 3);
            asked(office, STAMP, 8, kind >= FRAGILE ? 4 : 8);
        }
    }

    private static void expressOneMoreWraps() {
        check.sentence("EXPRESS: ABOVE of n and 1 more (wrapping)");
        for (int kind : new int[] {EXPRESS, NIGHT}) {
            answers(kind, 1, 1, STAMP, GREATEST, LEAST, 7, 1000);
            answers(kind, 1, 1, STAMP, GREATEST - 1, 0, 7, 1000);
            answers(kind, 1, 1, STAMP, LEAST, LEAST + 1, 7, 1000);
            answers(kind, 1, 1, STAMP, -1, 0, 7, 1000);
            answers(kind, 1, 1, STAMP, 999, 1000, 7, 1000);
            answers(kind, 1, 1, STAMP, 1000, 0, 7, 1000);
            answers(kind, 1, 1, STAMP, 0, 0, 7, 0);
        }
    }

    private static void courierStampsTwice() {
        check.sentence("COURIER: ABOVE of n, then ABOVE of 1");
        answers(COURIER, 1, 1, STAMP, 0, 3, 7, 3);
        answers(COURIER, 1, 1, STAMP, 1, 0, 7, 3);
        answers(COURIER, 1, 1, STAMP, 2, 0, 7, 3);
        answers(COURIER, 1, 1, STAMP, 3, 2, 7, 3);
        answers(COURIER, 1, 1, STAMP, 3, 0, 7, 1);
        answers(COURIER, 1, 1, STAMP, GREATEST, LEAST + 2, 7, 3);
        answers(COURIER, 1, 1, STAMP, LEAST, LEAST + 3, 7, 3);
        answers(COURIER, 1, 1, STAMP, -4, -1, 7, 3);
    }

    private static void fragileStampsAreCut() {
        check.sentence("FRAGILE: ABOVE of half of n");
        for (int kind : new int[] {FRAGILE, LIVE}) {
            answers(kind, 1, 1, STAMP, 1, 0);
            answers(kind, 1, 1, STAMP, 2, 1);
            answers(kind, 1, 1, STAMP, 3, 1);
            answers(kind, 1, 1, STAMP, -1, 0);
            answers(kind, 1, 1, STAMP, -2, -1);
            answers(kind, 1, 1, STAMP, -3, -1);
            answers(kind, 1, 1, STAMP, GREATEST, 1073741823);
            answers(kind, 1, 1, STAMP, LEAST, -1073741824);
        }
        PostRates office = Offices.withItem(FRAGILE, 1, 1);
        asked(office, STAMP, LEAST, -1073741824);
        asked(office, STAMP, LEAST, LEAST);
        asked(office, STAMP, -2, GREATEST);
    }

    private static void ranksOfGrams(int kind, int... gramsAndWant) {
        for (int i = 0; i < gramsAndWant.length; i += 2) {
            answers(kind, gramsAndWant[i], 1, RANK, 0, gramsAndWant[i + 1]);
        }
    }

    private static void rankIsTheRestOfSeven() {
        check.sentence("RANK (4): ITEM: GRAMS % 7");
        for (int kind : new int[] {LETTER, REGISTERED, EXPRESS, PARCEL, BULKY, FRAGILE}) {
            ranksOfGrams(kind, 0, 0, 6, 6, 7, 0, 8, 1, 99999, 4, 100000, 5);
        }
    }

    private static void nightRankIsOneMore() {
        check.sentence("NIGHT: ABOVE and 1");
        ranksOfGrams(NIGHT, 0, 1, 6, 7, 7, 1, 100000, 6);
        ranksOfGrams(COURIER, 0, 1, 6, 7, 7, 1, 100000, 6);
    }

    private static void liveRankIsThreeTimes() {
        check.sentence("LIVE: ABOVE times 3");
        ranksOfGrams(LIVE, 0, 0, 6, 18, 7, 0, 100000, 15);
    }

    private static void scanWraps() {
        check.sentence("CODE times n, and RANK (in this order; wrapping)");
        answers(REGISTERED, 6, 1, SCAN, GREATEST, -40 + 6);
        answers(REGISTERED, 6, 1, SCAN, LEAST, 6);
        answers(REGISTERED, 6, 1, SCAN, 1 << 26, LEAST + (1 << 29) + 6);
        answers(EXPRESS, 0, 1, SCAN, 53687091, 2147483640);
        answers(EXPRESS, 0, 1, SCAN, 53687092, LEAST + 32);
        answers(NIGHT, 0, 1, SCAN, GREATEST, -39);
        answers(COURIER, 0, 1, SCAN, LEAST, LEAST + 1);
        answers(COURIER, 1, 1, SCAN, GREATEST, GREATEST - 42);
        answers(PARCEL, 6, 1, SCAN, GREATEST, -60 + 6);
        answers(BULKY, 6, 1, SCAN, LEAST, 6);
        answers(PARCEL, 0, 1, SCAN, -35791394, -2147483640);
        answers(PARCEL, 0, 1, SCAN, -35791395, GREATEST - 51);
    }

    private static void scanByNothing() {
        check.sentence("CODE times n, and RANK: of 0 and of what is below");
        answers(REGISTERED, 6, 1, SCAN, 0, 6);
        answers(REGISTERED, 6, 1, SCAN, -1, -34);
        answers(COURIER, 6, 1, SCAN, 0, 7);
        answers(PARCEL, 6, 1, SCAN, 0, 6);
        answers(PARCEL, 6, 1, SCAN, -1, -54);
        answers(FRAGILE, 6, 1, SCAN, 0, 6);
        answers(FRAGILE, 6, 1, SCAN, -1, -53);
        answers(LIVE, 6, 1, SCAN, 0, 18);
        answers(LIVE, 6, 1, SCAN, -1, -78 + 18 + 1);
    }

    private static void fragileScanWraps() {
        check.sentence("FRAGILE has its own: the one that is lent, less n");
        answers(FRAGILE, 1, 1, SCAN, 1, 60);
        answers(FRAGILE, 1, 1, SCAN, LEAST, LEAST + 1);
        answers(FRAGILE, 1, 1, SCAN, GREATEST, 2147483590);
        answers(LIVE, 1, 1, SCAN, LEAST, 3);
        answers(LIVE, 1, 1, SCAN, GREATEST, -59);
    }

    private static void scannedKinds() {
        check.sentence("SCANNED are REGISTERED and those of it, PARCEL and those of it");
        long cast = Long.MIN_VALUE + 1;
        answers(LETTER, 0, 1, SCAN, 1, cast);
        answers(LETTER, 0, 1, CODE, 1, cast);
        int[] byOne = {40, 40, 41, 46, 60, 60, 59, 59};
        for (int kind = REGISTERED; kind <= LIVE; kind++) {
            answers(kind, 0, 1, SCAN, 1, byOne[kind - REGISTERED]);
        }
    }

    private static void codeOfEachKind() {
        check.sentence("CODE (6): REGISTERED 40, COURIER: ABOVE and 5; PARCEL: 60");
        int[] codes = {40, 40, 40, 45, 60, 60, 60};
        for (int kind = REGISTERED; kind <= FRAGILE; kind++) {
            answers(kind, 0, 1, CODE, 0, codes[kind - REGISTERED]);
            answers(kind, 6, 1, CODE, 0, codes[kind - REGISTERED]);
        }
    }

    private static void liveCodeTakesItsOwnRank() {
        check.sentence("LIVE: ABOVE and the RANK of the ITEM");
        answers(LIVE, 0, 1, CODE, 0, 60);
        answers(LIVE, 6, 1, CODE, 0, 78);
        answers(LIVE, 7, 1, CODE, 0, 60);
        PostRates office = Offices.withItem(LIVE, 1, 1);
        office.ask(0, CODE, 0);
        check.traceDue("code of LIVE", office, 96, 66, 94, 4);
    }
}
