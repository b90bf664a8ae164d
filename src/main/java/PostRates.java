/** A post office: items of nine kinds, posted, scanned, lost and paid for. README.md says how to use it. */
public final class PostRates {
    public static final int BAD = -1, FULL = -2, STATE = -3, CAST = -4;

    private static final long ASK_BAD = -9223372036854775808L;
    private static final long ASK_CAST = -9223372036854775807L;

    private static final int ITEM = 0, LETTER = 1, REGISTERED = 2, EXPRESS = 3, NIGHT = 4;
    private static final int COURIER = 5, PARCEL = 6, BULKY = 7, FRAGILE = 8, LIVE = 9;
    /** The body of SCAN that is lent belongs to no kind, and is written down as the bare member. */
    private static final int LENT = 0;

    private static final int COST = 0, DAYS = 1, COVER = 2, STAMP = 3, RANK = 4, SCAN = 5, CODE = 6;

    private static final int NEW = 0, UNDER_WAY = 1, THERE = 2, LOST = 3;

    private static final int MOST_ITEMS = 80;
    private static final int TARIFFS = 8, HIGHEST_TARIFF = 1000;
    private static final int MOST_GRAMS = 100000, HIGHEST_VALUE = 1000000;
    private static final int LAST_ZONE = 9;
    private static final int MOST_DAYS_AT_ONCE = 1000, LAST_DAY = 1000000;
    /** The longest trace is that of first() over all items: a RANK has at most two bodies. */
    private static final int LONGEST_TRACE = 2 * MOST_ITEMS;

    private final int[] tariffs;
    private final Item[] items;
    private final int[] entries;
    private int itemCount;
    private int entryCount;
    private int acts;
    private int today;
    private int latestScan;
    private long money;

    public PostRates() {
        tariffs = new int[TARIFFS];
        items = new Item[MOST_ITEMS];
        entries = new int[LONGEST_TRACE];
    }

    public int tariff(int k, int v) {
        if (k < 0 || k >= tariffs.length || !isWithin(v, HIGHEST_TARIFF)) {
            return BAD;
        }
        int before = tariffs[k];
        tariffs[k] = v;
        return before;
    }

    public int item(int kind, int grams, int value) {
        if (!isWithin(grams, MOST_GRAMS) || !isWithin(value, HIGHEST_VALUE)) {
            return BAD;
        }
        if (kind < LETTER || kind > LIVE) {
            return BAD;
        }
        if (itemCount >= items.length) {
            return FULL;
        }
        items[itemCount] = newItem(kind, grams, value);
        itemCount++;
        return itemCount - 1;
    }

    public long ask(int item, int member, int n) {
        Item asked = itemAt(item);
        if (asked == null || !isWithin(member, CODE)) {
            return ASK_BAD;
        }
        if ((member == COST || member == DAYS) && !isWithin(n, LAST_ZONE)) {
            return ASK_BAD;
        }
        startAct();
        if (member != SCAN && member != CODE) {
            return asked.answer(member, n);
        }
        if (asked instanceof Scanned scannedItem) {
            return member == SCAN ? scannedItem.scanBy(n) : scannedItem.code();
        }
        return ASK_CAST;
    }

    public int trace(int i) {
        return i >= 0 && i < entryCount && i < entries.length ? entries[i] : BAD;
    }

    public int post(int item, int zone) {
        Item posted = itemAt(item);
        if (posted == null || !isWithin(zone, LAST_ZONE)) {
            return BAD;
        }
        if (posted.state != NEW) {
            return STATE;
        }
        startAct();
        money += posted.cost(zone);
        posted.dueDay = today + posted.days(zone);
        posted.state = UNDER_WAY;
        return posted.dueDay;
    }

    public int lose(int item) {
        Item gone = itemAt(item);
        if (gone == null) {
            return BAD;
        }
        if (gone.state != UNDER_WAY) {
            return STATE;
        }
        startAct();
        int paid = gone.cover();
        money -= paid;
        gone.state = LOST;
        return paid;
    }

    public int day(int n) {
        if (!isWithin(n, MOST_DAYS_AT_ONCE)) {
            return BAD;
        }
        if (today + n > LAST_DAY) {
            return FULL;
        }
        today += n;
        int arrived = 0;
        for (int i = 0; i < itemCount; i++) {
            Item carried = itemAt(i);
            if (carried != null && carried.state == UNDER_WAY && carried.dueDay <= today) {
                carried.state = THERE;
                arrived++;
            }
        }
        return arrived;
    }

    public int told(int item, int what) {
        Item known = itemAt(item);
        return known == null ? BAD : known.fact(what);
    }

    public int scan(int item, int n) {
        Item shown = itemAt(item);
        if (shown == null) {
            return BAD;
        }
        startAct();
        if (shown instanceof Scanned scannedItem) {
            latestScan = scannedItem.scanBy(n);
            return 1;
        }
        return CAST;
    }

    public int scanned() {
        return latestScan;
    }

    public int first() {
        int least = BAD;
        int leastRank = 0;
        for (int i = 0; i < itemCount; i++) {
            Item waiting = itemAt(i);
            if (waiting == null || waiting.state != NEW) {
                continue;
            }
            // Without a NEW item nothing is asked, and the trace of the act before stays.
            if (least == BAD) {
                startAct();
            }
            int rank = waiting.rank();
            if (least == BAD || rank < leastRank) {
                least = i;
                leastRank = rank;
            }
        }
        return least;
    }

    public long till() {
        return money;
    }

    public int count(int what) {
        switch (what) {
            case 0:
                return itemCount;
            case 1:
                return today;
            case 2:
                return entryCount;
            case 3:
                return acts;
            default:
                return BAD;
        }
    }

    private static boolean isWithin(int number, int highest) {
        return number >= 0 && number <= highest;
    }

    private Item itemAt(int number) {
        return number >= 0 && number < itemCount && number < items.length ? items[number] : null;
    }

    private Item newItem(int kind, int grams, int value) {
        switch (kind) {
            case LETTER:
                return new Letter(this, kind, grams, value);
            case REGISTERED:
                return new Registered(this, kind, grams, value);
            case EXPRESS:
                return new Express(this, kind, grams, value);
            case NIGHT:
                return new Night(this, kind, grams, value);
            case COURIER:
                return new Courier(this, kind, grams, value);
            case PARCEL:
                return new Parcel(this, kind, grams, value);
            case BULKY:
                return new Bulky(this, kind, grams, value);
            case FRAGILE:
                return new Fragile(this, kind, grams, value);
            default:
                return new Live(this, kind, grams, value);
        }
    }

    private void startAct() {
        acts++;
        entryCount = 0;
    }

    private void begin(int kind, int member) {
        if (entryCount < entries.length) {
            entries[entryCount] = 10 * kind + member;
            entryCount++;
        }
    }

    private int rate(int k) {
        return k >= 0 && k < tariffs.length ? tariffs[k] : 0;
    }

    /** What an item must be to be scanned; the default body of SCAN is the one that is lent. */
    private interface Scanned {
        PostRates office();

        int code();

        int rank();

        default int scanBy(int n) {
            office().begin(LENT, SCAN);
            return code() * n + rank();
        }
    }

    private abstract static class Item {
        final PostRates office;
        final int kind;
        final int grams;
        final int value;
        int stamps;
        int state;
        int dueDay;

        Item(PostRates office, int kind, int grams, int value) {
            this.office = office;
            this.kind = kind;
            this.grams = grams;
            this.value = value;
        }

        public PostRates office() {
            return office;
        }

        int answer(int member, int n) {
            switch (member) {
                case COST:
                    return cost(n);
                case DAYS:
                    return days(n);
                case COVER:
                    return cover();
                case STAMP:
                    stamp(n);
                    return stamps;
                default:
                    return rank();
            }
        }

        int fact(int what) {
            switch (what) {
                case 0:
                    return kind;
                case 1:
                    return grams;
                case 2:
                    return value;
                case 3:
                    return stamps;
                case 4:
                    return state;
                case 5:
                    return state == NEW ? BAD : dueDay;
                default:
                    return BAD;
            }
        }

        int cost(int z) {
            office.begin(ITEM, COST);
            return office.rate(0) + z * office.rate(1) + grams / 100 * office.rate(2);
        }

        int days(int z) {
            office.begin(ITEM, DAYS);
            return 2 + z;
        }

        int cover() {
            office.begin(ITEM, COVER);
            return Math.min(value, office.rate(6));
        }

        void stamp(int n) {
            office.begin(ITEM, STAMP);
            stamps += n;
        }

        public int rank() {
            office.begin(ITEM, RANK);
            return grams % 7;
        }
    }

    private static class Letter extends Item {
        Letter(PostRates office, int kind, int grams, int value) {
            super(office, kind, grams, value);
        }

        @Override
        int cost(int z) {
            office.begin(LETTER, COST);
            return Math.max(0, super.cost(z) - office.rate(3));
        }

        @Override
        int days(int z) {
            office.begin(LETTER, DAYS);
            return 1 + z / 2;
        }

        @Override
        void stamp(int n) {
            office.begin(LETTER, STAMP);
            super.stamp(n);
            if (stamps > office.rate(7)) {
                stamps = 0;
            }
        }
    }

    private static class Registered extends Letter implements Scanned {
        Registered(PostRates office, int kind, int grams, int value) {
            super(office, kind, grams, value);
        }

        @Override
        int cover() {
            office.begin(REGISTERED, COVER);
            return 2 * super.cover();
        }

        @Override
        public int code() {
            office.begin(REGISTERED, CODE);
            return 40;
        }
    }

    private static class Express extends Registered {
        Express(PostRates office, int kind, int grams, int value) {
            super(office, kind, grams, value);
        }

        @Override
        int cost(int z) {
            office.begin(EXPRESS, COST);
            return 2 * super.cost(z) + office.rate(4);
        }

        @Override
        int days(int z) {
            office.begin(EXPRESS, DAYS);
            return Math.max(1, super.days(z) - 1);
        }

        @Override
        void stamp(int n) {
            office.begin(EXPRESS, STAMP);
            super.stamp(n + 1);
        }
    }

    private static class Night extends Express {
        Night(PostRates office, int kind, int grams, int value) {
            super(office, kind, grams, value);
        }

        @Override
        int days(int z) {
            office.begin(NIGHT, DAYS);
            return super.days(z) / 2;
        }

        @Override
        public int rank() {
            office.begin(NIGHT, RANK);
            return super.rank() + 1;
        }
    }

    private static final class Courier extends Night {
        Courier(PostRates office, int kind, int grams, int value) {
            super(office, kind, grams, value);
        }

        @Override
        int cost(int z) {
            office.begin(COURIER, COST);
            return super.cost(z) + 10 * z;
        }

        @Override
        int cover() {
            office.begin(COURIER, COVER);
            return super.cover() + 100;
        }

        @Override
        void stamp(int n) {
            office.begin(COURIER, STAMP);
            super.stamp(n);
            super.stamp(1);
        }

        @Override
        public int code() {
            office.begin(COURIER, CODE);
            return super.code() + 5;
        }
    }

    private static class Parcel extends Item implements Scanned {
        Parcel(PostRates office, int kind, int grams, int value) {
            super(office, kind, grams, value);
        }

        @Override
        int cost(int z) {
            office.begin(PARCEL, COST);
            return super.cost(z) + grams / 1000 * office.rate(5);
        }

        @Override
        public int code() {
            office.begin(PARCEL, CODE);
            return 60;
        }
    }

    private static class Bulky extends Parcel {
        Bulky(PostRates office, int kind, int grams, int value) {
            super(office, kind, grams, value);
        }

        @Override
        int cover() {
            office.begin(BULKY, COVER);
            return super.cover() / 2;
        }
    }

    private static class Fragile extends Bulky {
        Fragile(PostRates office, int kind, int grams, int value) {
            super(office, kind, grams, value);
        }

        @Override
        int cost(int z) {
            office.begin(FRAGILE, COST);
            return super.cost(z) + value / 10;
        }

        @Override
        int days(int z) {
            office.begin(FRAGILE, DAYS);
            return super.days(z) + 1;
        }

        @Override
        void stamp(int n) {
            office.begin(FRAGILE, STAMP);
            super.stamp(n / 2);
        }

        @Override
        public int scanBy(int n) {
            office.begin(FRAGILE, SCAN);
            return super.scanBy(n) - n;
        }
    }

    private static final class Live extends Fragile {
        Live(PostRates office, int kind, int grams, int value) {
            super(office, kind, grams, value);
        }

        @Override
        int cost(int z) {
            office.begin(LIVE, COST);
            int above = super.cost(z);
            return above + above / 2;
        }

        @Override
        int days(int z) {
            office.begin(LIVE, DAYS);
            return super.days(z / 2);
        }

        @Override
        int cover() {
            office.begin(LIVE, COVER);
            return super.cover() + super.cover();
        }

        @Override
        public int rank() {
            office.begin(LIVE, RANK);
            return super.rank() * 3;
        }

        @Override
        public int code() {
            office.begin(LIVE, CODE);
            return super.code() + rank();
        }
    }
}
