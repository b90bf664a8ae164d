/** The document's bodies worked out kind by kind, without inheritance, so that a wrong chain shows. */
final class Expected {
    private Expected() {
    }

    /** TRACES[member][kind - 1]; an empty one ends with CAST. */
    static final int[][][] TRACES = {
        {{10, 0}, {10, 0}, {30, 10, 0}, {30, 10, 0}, {50, 30, 10, 0},
            {60, 0}, {60, 0}, {80, 60, 0}, {90, 80, 60, 0}},
        {{11}, {11}, {31, 11}, {41, 31, 11}, {41, 31, 11},
            {1}, {1}, {81, 1}, {91, 81, 1}},
        {{2}, {22, 2}, {22, 2}, {22, 2}, {52, 22, 2},
            {2}, {72, 2}, {72, 2}, {92, 72, 2, 72, 2}},
        {{13, 3}, {13, 3}, {33, 13, 3}, {33, 13, 3}, {53, 33, 13, 3, 33, 13, 3},
            {3}, {3}, {83, 3}, {83, 3}},
        {{4}, {4}, {4}, {44, 4}, {44, 4},
            {4}, {4}, {4}, {94, 4}},
        {{}, {5, 26, 4}, {5, 26, 4}, {5, 26, 44, 4}, {5, 56, 26, 44, 4},
            {5, 66, 4}, {5, 66, 4}, {85, 5, 66, 4}, {85, 5, 96, 66, 94, 4, 94, 4}},
        {{}, {26}, {26}, {26}, {56, 26},
            {66}, {66}, {66}, {96, 66, 94, 4}},
    };

    static int cost(int[] t, int kind, int grams, int value, int z) {
        int plain = t[0] + z * t[1] + (grams / 100) * t[2];
        int letter = plain < t[3] ? 0 : plain - t[3];
        int parcel = plain + (grams / 1000) * t[5];
        return switch (kind) {
            case 1, 2 -> letter;
            case 3, 4 -> letter + letter + t[4];
            case 5 -> letter + letter + t[4] + 10 * z;
            case 6, 7 -> parcel;
            case 8 -> parcel + value / 10;
            default -> (parcel + value / 10) + (parcel + value / 10) / 2;
        };
    }

    static int days(int kind, int z) {
        int express = z < 2 ? 1 : z / 2;
        return switch (kind) {
            case 1, 2 -> 1 + z / 2;
            case 3 -> express;
            case 4, 5 -> express / 2;
            case 6, 7 -> 2 + z;
            case 8 -> 3 + z;
            default -> 3 + z / 2;
        };
    }

    static int cover(int[] t, int kind, int value) {
        int plain = value < t[6] ? value : t[6];
        return switch (kind) {
            case 1, 6 -> plain;
            case 2, 3, 4 -> 2 * plain;
            case 5 -> 2 * plain + 100;
            case 7, 8 -> plain / 2;
            default -> plain / 2 + plain / 2;
        };
    }

    static int stamps(int[] t, int kind, int before, int n) {
        return switch (kind) {
            case 1, 2 -> letterStamps(t, before, n);
            case 3, 4 -> letterStamps(t, before, n + 1);
            case 5 -> letterStamps(t, letterStamps(t, before, n + 1), 2);
            case 6, 7 -> before + n;
            default -> before + n / 2;
        };
    }

    private static int letterStamps(int[] t, int before, int n) {
        int after = before + n;
        return after > t[7] ? 0 : after;
    }

    static int rank(int kind, int grams) {
        int plain = grams % 7;
        return switch (kind) {
            case 4, 5 -> plain + 1;
            case 9 -> plain * 3;
            default -> plain;
        };
    }

    static int code(int kind, int grams) {
        return switch (kind) {
            case 2, 3, 4 -> 40;
            case 5 -> 45;
            case 9 -> 60 + (grams % 7) * 3;
            default -> 60;
        };
    }

    static int scan(int kind, int grams, int n) {
        int lent = code(kind, grams) * n + rank(kind, grams);
        return kind >= 8 ? lent - n : lent;
    }
}
