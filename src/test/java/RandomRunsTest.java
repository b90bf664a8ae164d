import java.util.Random;

/** Runs of 512 seeded calls, wrong inputs among them, each answer held against a plain model. */
public final class RandomRunsTest {
    private static final int RUNS = 2000;
    private static final int CALLS = 512;
    private static final int[] EXTREMES = {Integer.MIN_VALUE, Integer.MAX_VALUE, -1, 1 << 30, -(1 << 30)};

    private static final Check check = new Check();

    public static void main(String[] args) {
        for (int run = 0; run < RUNS; run++) {
            oneRun(run);
        }
        check.end();
    }

    private static void oneRun(int run) {
        Random random = new Random(run);
        PostRates office = new PostRates();
        Model model = new Model();
        for (int call = 0; call < CALLS; call++) {
            oneCall("run " + run + ", call " + call + ": ", random, office, model);
        }
    }

    private static void oneCall(String at, Random random, PostRates office, Model model) {
        int item = near(random, model.count + 1);
        int n = random.nextInt(3) == 0 ? random.nextInt() : near(random, 12);
        switch (random.nextInt(18)) {
            case 0 -> {
                int k = near(random, 9);
                int v = near(random, 1003);
                check.due(at + "tariff(" + k + ", " + v + ")", office.tariff(k, v), model.tariff(k, v));
            }
            case 1, 2 -> {
                int kind = near(random, 11);
                int grams = near(random, 100003);
                int value = near(random, random.nextBoolean() ? 3000 : 1000003);
                check.due(at + "item(" + kind + ", " + grams + ", " + value + ")",
                        office.item(kind, grams, value), model.item(kind, grams, value));
            }
            case 3, 4, 5 -> {
                int member = near(random, 8);
                check.due(at + "ask(" + item + ", " + member + ", " + n + ")",
                        office.ask(item, member, n), model.ask(item, member, n));
            }
            case 6 -> {
                int i = near(random, model.traceLength + 2);
                check.due(at + "trace(" + i + ")", office.trace(i), model.entry(i));
            }
            case 7 -> check.due(at + "post(" + item + ", " + n + ")", office.post(item, n), model.post(item, n));
            case 8 -> check.due(at + "lose(" + item + ")", office.lose(item), model.lose(item));
            case 9 -> {
                int days = near(random, random.nextInt(4) == 0 ? 1003 : 4);
                check.due(at + "day(" + days + ")", office.day(days), model.day(days));
            }
            case 10 -> {
                int what = near(random, 7);
                check.due(at + "told(" + item + ", " + what + ")", office.told(item, what), model.told(item, what));
            }
            case 11 -> check.due(at + "scan(" + item + ", " + n + ")", office.scan(item, n), model.scan(item, n));
            case 12 -> check.due(at + "scanned()", office.scanned(), model.scanned);
            case 13 -> check.due(at + "first()", office.first(), model.first());
            case 14 -> check.due(at + "till()", office.till(), model.till);
            default -> {
                int what = near(random, 5);
                check.due(at + "count(" + what + ")", office.count(what), model.counted(what));
            }
        }
    }

    /** Mostly 0 .. bound - 1, now and then just outside or far away. */
    private static int near(Random random, int bound) {
        int chance = random.nextInt(40);
        if (chance == 0) {
            return EXTREMES[random.nextInt(EXTREMES.length)];
        }
        return chance == 1 ? bound - 1 : random.nextInt(Math.max(1, bound));
    }

    /** An item is a row: kind, grams, value, stamps, state, day. */
    private static final class Model {
        final int[] tariffs = new int[8];
        final int[][] rows = new int[80][];
        final int[] trace = new int[1000];
        int count;
        int traceLength;
        int acts;
        int today;
        int scanned;
        long till;

        int tariff(int k, int v) {
            if (k < 0 || k > 7 || v < 0 || v > 1000) {
                return -1;
            }
            int before = tariffs[k];
            tariffs[k] = v;
            return before;
        }

        int item(int kind, int grams, int value) {
            if (kind < 1 || kind > 9 || grams < 0 || grams > 100000 || value < 0 || value > 1000000) {
                return -1;
            }
            if (count == 80) {
                return -2;
            }
            rows[count] = new int[] {kind, grams, value, 0, 0, -1};
            return count++;
        }

        private boolean isItem(int item) {
            return item >= 0 && item < count;
        }

        private void act() {
            acts++;
            traceLength = 0;
        }

        private void wrote(int member, int kind) {
            for (int entry : Expected.TRACES[member][kind - 1]) {
                trace[traceLength++] = entry;
            }
        }

        long ask(int item, int member, int n) {
            if (!isItem(item) || member < 0 || member > 6 || member < 2 && (n < 0 || n > 9)) {
                return Long.MIN_VALUE;
            }
            act();
            int[] row = rows[item];
            if (member >= 5 && row[0] == 1) {
                return Long.MIN_VALUE + 1;
            }
            wrote(member, row[0]);
            return switch (member) {
                case 0 -> Expected.cost(tariffs, row[0], row[1], row[2], n);
                case 1 -> Expected.days(row[0], n);
                case 2 -> Expected.cover(tariffs, row[0], row[2]);
                case 3 -> row[3] = Expected.stamps(tariffs, row[0], row[3], n);
                case 4 -> Expected.rank(row[0], row[1]);
                case 5 -> Expected.scan(row[0], row[1], n);
                default -> Expected.code(row[0], row[1]);
            };
        }

        int entry(int i) {
            return i >= 0 && i < traceLength ? trace[i] : -1;
        }

        int post(int item, int zone) {
            if (!isItem(item) || zone < 0 || zone > 9) {
                return -1;
            }
            int[] row = rows[item];
            if (row[4] != 0) {
                return -3;
            }
            act();
            wrote(0, row[0]);
            wrote(1, row[0]);
            till += Expected.cost(tariffs, row[0], row[1], row[2], zone);
            row[4] = 1;
            row[5] = today + Expected.days(row[0], zone);
            return row[5];
        }

        int lose(int item) {
            if (!isItem(item)) {
                return -1;
            }
            int[] row = rows[item];
            if (row[4] != 1) {
                return -3;
            }
            act();
            wrote(2, row[0]);
            int cover = Expected.cover(tariffs, row[0], row[2]);
            till -= cover;
            row[4] = 3;
            return cover;
        }

        int day(int n) {
            if (n < 0 || n > 1000) {
                return -1;
            }
            today += n;
            int there = 0;
            for (int i = 0; i < count; i++) {
                if (rows[i][4] == 1 && rows[i][5] <= today) {
                    rows[i][4] = 2;
                    there++;
                }
            }
            return there;
        }

        int told(int item, int what) {
            return isItem(item) && what >= 0 && what <= 5 ? rows[item][what] : -1;
        }

        int scan(int item, int n) {
            long answer = ask(item, 5, n);
            if (answer == Long.MIN_VALUE) {
                return -1;
            }
            if (answer == Long.MIN_VALUE + 1) {
                return -4;
            }
            scanned = (int) answer;
            return 1;
        }

        int first() {
            int least = -1;
            for (int i = 0; i < count; i++) {
                if (rows[i][4] == 0 && (least < 0 || rank(i) < rank(least))) {
                    least = i;
                }
            }
            if (least >= 0) {
                act();
                for (int i = 0; i < count; i++) {
                    if (rows[i][4] == 0) {
                        wrote(4, rows[i][0]);
                    }
                }
            }
            return least;
        }

        int counted(int what) {
            return switch (what) {
                case 0 -> count;
                case 1 -> today;
                case 2 -> traceLength;
                case 3 -> acts;
                default -> -1;
            };
        }

        private int rank(int item) {
            return Expected.rank(rows[item][0], rows[item][1]);
        }
    }
}
