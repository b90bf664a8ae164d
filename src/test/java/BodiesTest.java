/** Promises 4 and 5: every member of every kind, its answer and its trace. */
public final class BodiesTest {
    private static final long BAD = Long.MIN_VALUE;
    private static final long CAST = Long.MIN_VALUE + 1;
    private static final int[][] TARIFFS = {
        {0, 0, 0, 0, 0, 0, 0, 0},
        {100, 7, 3, 150, 25, 11, 501, 9},
        {1, 1, 1, 1000, 1, 1, 1, 1},
        {1000, 1000, 1000, 1000, 1000, 1000, 1000, 1000},
    };
    private static final int[] GRAMS = {0, 6, 99, 100, 999, 1000, 7633, 100000};
    private static final int[] VALUES = {0, 9, 333, 1000000};
    private static final int[] MEMBERS_WITHOUT_STAMP = {0, 1, 2, 4, 5, 6};
    private static final int[] ZONES = {0, 1, 2, 3, 4, 5, 6, 7, 8, 9};
    private static final int[] NUMBERS = {
        Integer.MIN_VALUE, Integer.MIN_VALUE + 1, -100, -3, -2, -1, 0, 1, 2, 3, 8, 9, 10, 1000, 1001,
        Integer.MAX_VALUE - 1, Integer.MAX_VALUE,
    };

    private static final Check check = new Check();

    public static void main(String[] args) {
        everyKindAndMember();
        stampsOfEveryKind();
        handWorkedAnswers();
        wrongAsks();
        castsEmptyTheTrace();
        tracesOfWholeActs();
        check.end();
    }

    private static PostRates office(int[] tariffs) {
        PostRates office = new PostRates();
        for (int k = 0; k < tariffs.length; k++) {
            office.tariff(k, tariffs[k]);
        }
        return office;
    }

    private static void everyKindAndMember() {
        for (int[] tariffs : TARIFFS) {
            for (int grams : GRAMS) {
                for (int value : VALUES) {
                    for (int kind = 1; kind <= 9; kind++) {
                        askAll(tariffs, kind, grams, value);
                    }
                }
            }
        }
    }

    /** A new office for each member, since one is used for at most 512 calls. */
    private static void askAll(int[] tariffs, int kind, int grams, int value) {
        for (int member : MEMBERS_WITHOUT_STAMP) {
            PostRates office = office(tariffs);
            office.item(kind, grams, value);
            for (int n : member <= 1 ? ZONES : NUMBERS) {
                asked(office, kind, member, n, answer(tariffs, kind, grams, value, member, n));
            }
        }
    }

    private static long answer(int[] tariffs, int kind, int grams, int value, int member, int n) {
        return switch (member) {
            case 0 -> Expected.cost(tariffs, kind, grams, value, n);
            case 1 -> Expected.days(kind, n);
            case 2 -> Expected.cover(tariffs, kind, value);
            case 4 -> Expected.rank(kind, grams);
            case 5 -> kind == 1 ? CAST : Expected.scan(kind, grams, n);
            default -> kind == 1 ? CAST : Expected.code(kind, grams);
        };
    }

    private static void asked(PostRates office, int kind, int member, int n, long want) {
        String call = "kind " + kind + ": ask(0, " + member + ", " + n + ")";
        check.due(call, office.ask(0, member, n), want);
        check.traceDue(call, office, Expected.TRACES[member][kind - 1]);
    }

    private static void stampsOfEveryKind() {
        for (int[] tariffs : TARIFFS) {
            for (int kind = 1; kind <= 9; kind++) {
                PostRates office = office(tariffs);
                office.item(kind, 50, 50);
                int stamps = 0;
                for (int n : NUMBERS) {
                    stamps = Expected.stamps(tariffs, kind, stamps, n);
                    asked(office, kind, 3, n, stamps);
                    check.due("kind " + kind + ": told(0, 3)", office.told(0, 3), stamps);
                }
            }
        }
    }

    /** Worked out by hand from the document's words, so that Expected itself is held to something. */
    private static void handWorkedAnswers() {
        PostRates office = office(new int[] {10, 5, 2, 20, 7, 3, 301, 4});
        office.item(1, 1250, 999);
        check.due("letter: cost", office.ask(0, 0, 3), 29);
        check.due("letter: cost at zone 0", office.ask(0, 0, 0), 14);
        check.due("letter: stamps up to T7", office.ask(0, 3, 4), 4);
        check.due("letter: stamps above T7", office.ask(0, 3, 1), 0);
        office.item(5, 1250, 999);
        check.due("courier: cost", office.ask(1, 0, 3), 2 * 29 + 7 + 30);
        check.due("courier: days", office.ask(1, 1, 9), 2);
        check.due("courier: cover", office.ask(1, 2, 0), 702);
        check.due("courier: stamps", office.ask(1, 3, 1), 4);
        check.due("courier: stamps, cleared between", office.ask(1, 3, 0), 2);
        check.due("courier: rank", office.ask(1, 4, 0), 5);
        check.due("courier: scan", office.ask(1, 5, -2), -85);
        check.due("courier: code", office.ask(1, 6, 0), 45);
        office.item(9, 1250, 999);
        check.due("live: cost", office.ask(2, 0, 3), 151 + 75);
        check.due("live: days", office.ask(2, 1, 9), 7);
        check.due("live: cover", office.ask(2, 2, 0), 300);
        check.due("live: stamps", office.ask(2, 3, -7), -3);
        check.due("live: rank", office.ask(2, 4, 0), 12);
        check.due("live: scan", office.ask(2, 5, 2), 72 * 2 + 12 - 2);
        check.due("live: code", office.ask(2, 6, 0), 72);
    }

    private static void wrongAsks() {
        PostRates office = new PostRates();
        check.due("ask of no item", office.ask(0, 0, 0), BAD);
        office.item(1, 1, 1);
        office.ask(0, 0, 0);
        int[][] wrong = {
            {-1, 0, 0}, {1, 0, 0}, {80, 0, 0}, {Integer.MAX_VALUE, 5, 0}, {Integer.MIN_VALUE, 3, 0},
            {0, -1, 0}, {0, 7, 0}, {0, Integer.MAX_VALUE, 0}, {0, Integer.MIN_VALUE, 0},
            {0, 0, -1}, {0, 0, 10}, {0, 1, -1}, {0, 1, 10},
            {0, 0, Integer.MAX_VALUE}, {0, 1, Integer.MIN_VALUE},
        };
        for (int[] a : wrong) {
            String call = "ask(" + a[0] + ", " + a[1] + ", " + a[2] + ")";
            check.due(call, office.ask(a[0], a[1], a[2]), BAD);
            check.traceDue(call, office, 10, 0);
        }
        check.due("acts of wrong asks", office.count(3), 1);
        check.due("stamps of wrong asks", office.told(0, 3), 0);
    }

    private static void castsEmptyTheTrace() {
        PostRates office = new PostRates();
        office.item(1, 1, 1);
        for (int member = 5; member <= 6; member++) {
            office.ask(0, 0, 0);
            check.due("cast", office.ask(0, member, 1), CAST);
            check.traceDue("cast", office);
        }
        check.due("acts with casts", office.count(3), 4);
    }

    private static void tracesOfWholeActs() {
        PostRates office = new PostRates();
        check.traceDue("new", office);
        check.due("trace(-1)", office.trace(-1), PostRates.BAD);
        office.item(9, 1, 1);
        office.item(5, 1, 1);
        check.traceDue("item()", office);
        office.first();
        check.traceDue("first()", office, 94, 4, 44, 4);
        office.post(0, 9);
        check.traceDue("post()", office, 90, 80, 60, 0, 91, 81, 1);
        office.lose(0);
        check.traceDue("lose()", office, 92, 72, 2, 72, 2);
        office.scan(1, 3);
        check.traceDue("scan()", office, 5, 56, 26, 44, 4);
        office.tariff(0, 5);
        office.day(3);
        office.told(0, 0);
        office.scanned();
        office.till();
        check.traceDue("calls that ask nothing", office, 5, 56, 26, 44, 4);
        check.due("trace(-1)", office.trace(-1), PostRates.BAD);
        check.due("trace(least)", office.trace(Integer.MIN_VALUE), PostRates.BAD);
        check.due("trace(greatest)", office.trace(Integer.MAX_VALUE), PostRates.BAD);
    }
}
