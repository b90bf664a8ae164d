/** New offices for tests, with what a test needs in them. */
final class Offices {
    private Offices() {
    }

    /** Pairs of a tariff's number and what it becomes. */
    static PostRates withTariffs(int... pairs) {
        PostRates office = new PostRates();
        for (int i = 0; i + 1 < pairs.length; i += 2) {
            office.tariff(pairs[i], pairs[i + 1]);
        }
        return office;
    }

    /** Item 0 is the only one. */
    static PostRates withItem(int kind, int grams, int value, int... pairs) {
        PostRates office = withTariffs(pairs);
        office.item(kind, grams, value);
        return office;
    }

    /** Items 0 .. 8 are of the kinds 1 .. 9. */
    static PostRates withAllKinds(int grams, int value, int... pairs) {
        PostRates office = withTariffs(pairs);
        for (int kind = 1; kind <= 9; kind++) {
            office.item(kind, grams, value);
        }
        return office;
    }

    static PostRates full() {
        PostRates office = new PostRates();
        for (int i = 0; i < 80; i++) {
            office.item(1 + i % 9, i, i);
        }
        return office;
    }

    /** Numbers that are not within 0 .. highest: the nearest and the farthest. */
    static int[] outside(int highest) {
        return new int[] {-1, highest + 1, Integer.MIN_VALUE, Integer.MAX_VALUE};
    }
}
