/** Promises 11 and 12: pass and passOf. */
public final class PassesTest {
    private static final Checks CHECKS = new Checks();

    /** The pass of each point of a square of eight by eight, as the PNG specification draws it from 1 on. */
    private static final String[] SQUARE = {
        "16462646", "77777777", "56565656", "77777777", "36463646", "77777777", "56565656", "77777777"};

    public static void main(String[] args) {
        passOfFollowsTheSquare();
        passOfRefuses();
        passCountsThePoints();
        passAtItsEdges();
        passRefuses();
        passesLeaveTheRows();
        CHECKS.end();
    }

    private static int drawn(int x, int y) {
        return SQUARE[y % 8].charAt(x % 8) - '1';
    }

    private static void passOfFollowsTheSquare() {
        RowFilters x = new RowFilters();
        int[] starts = {0, 8, 50000, 99992};
        for (int fromX : starts) {
            for (int fromY : starts) {
                for (int k = 0; k < 64; k++) {
                    int px = fromX + k % 8;
                    int py = fromY + k / 8;
                    CHECKS.due("passOf(" + px + ", " + py + ")", x.passOf(px, py), drawn(px, py));
                }
            }
        }
    }

    private static void passOfRefuses() {
        RowFilters x = new RowFilters();
        int[][] wrong = {
            {-1, 0}, {0, -1}, {-1, -1}, {100000, 0}, {0, 100000}, {100000, 100000}, {-8, 0}, {0, -8},
            {Integer.MIN_VALUE, 0}, {0, Integer.MIN_VALUE}, {Integer.MAX_VALUE, 0}, {0, Integer.MAX_VALUE}};
        for (int[] w : wrong) {
            CHECKS.refusedUnchanged("passOf(" + w[0] + ", " + w[1] + ")", x, 1, 1, () -> x.passOf(w[0], w[1]));
        }
    }

    private static void passCountsThePoints() {
        RowFilters x = new RowFilters();
        for (int w = 1; w <= 20; w++) {
            for (int h = 1; h <= 20; h++) {
                for (int p = 0; p < 7; p++) {
                    String call = "pass(" + p + ", " + w + ", " + h + ", ";
                    CHECKS.due(call + "false)", x.pass(p, w, h, false), countedWide(p, w, h));
                    CHECKS.due(call + "true)", x.pass(p, w, h, true), countedHigh(p, w, h));
                }
            }
        }
    }

    private static int countedWide(int p, int w, int h) {
        int most = 0;
        for (int y = 0; y < h; y++) {
            int count = 0;
            for (int px = 0; px < w; px++) {
                count += drawn(px, y) == p ? 1 : 0;
            }
            most = Math.max(most, count);
        }
        return most;
    }

    private static int countedHigh(int p, int w, int h) {
        int most = 0;
        for (int px = 0; px < w; px++) {
            int count = 0;
            for (int y = 0; y < h; y++) {
                count += drawn(px, y) == p ? 1 : 0;
            }
            most = Math.max(most, count);
        }
        return most;
    }

    private static void passAtItsEdges() {
        RowFilters x = new RowFilters();
        int[] wide = {12500, 12500, 25000, 25000, 50000, 50000, 100000};
        int[] high = {12500, 12500, 12500, 25000, 25000, 50000, 50000};
        for (int p = 0; p < 7; p++) {
            CHECKS.due("the width of pass " + p + " of the largest", x.pass(p, 100000, 100000, false), wide[p]);
            CHECKS.due("the height of pass " + p + " of the largest", x.pass(p, 100000, 100000, true), high[p]);
            int only = p == 0 ? 1 : 0;
            CHECKS.due("the width of pass " + p + " of one point", x.pass(p, 1, 1, false), only);
            CHECKS.due("the height of pass " + p + " of one point", x.pass(p, 1, 1, true), only);
        }
        CHECKS.due("pass(1, 4, 100000, true), no column", x.pass(1, 4, 100000, true), 0);
        CHECKS.due("pass(2, 100000, 4, false), no row", x.pass(2, 100000, 4, false), 0);
        CHECKS.due("pass(6, 100000, 1, false), no row", x.pass(6, 100000, 1, false), 0);
        CHECKS.due("pass(5, 1, 100000, true), no column", x.pass(5, 1, 100000, true), 0);
    }

    private static void passRefuses() {
        RowFilters x = new RowFilters();
        int[][] wrong = {
            {-1, 8, 8}, {7, 8, 8}, {0, 0, 8}, {0, 8, 0}, {0, -1, 8}, {0, 8, -1}, {0, 100001, 8}, {0, 8, 100001},
            {6, 0, 1}, {6, 1, 0}, {Integer.MIN_VALUE, 8, 8}, {Integer.MAX_VALUE, 8, 8},
            {3, Integer.MIN_VALUE, 8}, {3, Integer.MAX_VALUE, 8}, {3, 8, Integer.MIN_VALUE},
            {3, 8, Integer.MAX_VALUE}, {1, 1, 0}, {1, 1, 100001}, {2, 0, 1}, {2, 100001, 1}};
        for (int[] w : wrong) {
            for (boolean high : new boolean[] {false, true}) {
                CHECKS.refusedUnchanged("pass(" + w[0] + ", " + w[1] + ", " + w[2] + ", " + high + ")", x, 1, 1,
                    () -> x.pass(w[0], w[1], w[2], high));
            }
        }
    }

    private static void passesLeaveTheRows() {
        RowFilters x = new RowFilters();
        x.open(3, 5, 2);
        x.fill(3, 0x01234567, 99);
        int before = x.hash();
        x.pass(6, 100, 200, true);
        x.passOf(50, 60);
        CHECKS.due("hash() after pass and passOf", x.hash(), before);
        CHECKS.hasShape("after pass and passOf", x, 3, 5);
    }
}
