/** Promises 11 and 12, in ordinary use: pass and passOf. */
public final class PassesTest {
    private static final Checks CHECKS = new Checks();

    /** The pass of each point of a square of eight by eight, as the PNG specification draws it from 1 on. */
    private static final String[] SQUARE = {
        "16462646", "77777777", "56565656", "77777777", "36463646", "77777777", "56565656", "77777777"};

    public static void main(String[] args) {
        passOfFollowsTheSquare();
        passCountsThePoints();
        passesLeaveTheRows();
        CHECKS.end();
    }

    private static int drawn(int x, int y) {
        return SQUARE[y % 8].charAt(x % 8) - '1';
    }

    private static void passOfFollowsTheSquare() {
        int[] starts = {0, 8, 50000, 99992};
        for (int fromX : starts) {
            for (int fromY : starts) {
                RowFilters x = new RowFilters();
                for (int k = 0; k < 64; k++) {
                    int px = fromX + k % 8;
                    int py = fromY + k / 8;
                    CHECKS.due("passOf(" + px + ", " + py + ")", x.passOf(px, py), drawn(px, py));
                }
            }
        }
    }

    private static void passCountsThePoints() {
        for (int w = 1; w <= 20; w++) {
            RowFilters x = new RowFilters();
            for (int h = 1; h <= 20; h++) {
                for (int p = 0; p < 7; p++) {
                    String call = "pass(" + p + ", " + w + ", " + h + ", ";
                    CHECKS.due(call + "false)", x.pass(p, w, h, false), countedWide(p, w, h));
                    CHECKS.due(call + "true)", x.pass(p, w, h, true), countedHigh(p, w, h));
                }
            }
        }
    }

    private static int countedWide(int p, int w, int h) {
        int most = 0;
        for (int y = 0; y < h; y++) {
            int count = 0;
            for (int px = 0; px < w; px++) {
                count += drawn(px, y) == p ? 1 : 0;
            }
            most = Math.max(most, count);
        }
        return most;
    }

    private static int countedHigh(int p, int w, int h) {
        int most = 0;
        for (int px = 0; px < w; px++) {
            int count = 0;
            for (int y = 0; y < h; y++) {
                count += drawn(px, y) == p ? 1 : 0;
            }
            most = Math.max(most, count);
        }
        return most;
    }

    private static void passesLeaveTheRows() {
        RowFilters x = new RowFilters();
        x.open(3, 5, 2);
        x.fill(3, 0x01234567, 99);
        int before = x.hash();
        x.pass(6, 100, 200, true);
        x.passOf(50, 60);
        CHECKS.due("hash() after pass and passOf", x.hash(), before);
        CHECKS.hasShape("after pass and passOf", x, 3, 5);
    }
}
