/** Promises 6 to 9, in ordinary use: filter, plain, best, undo. */
public final class FiltersTest {
    private static final Checks CHECKS = new Checks();

    private static final int[] ABOVE = {100, 7, 250, 30, 0, 255};
    private static final int[] ROW = {10, 200, 3, 40, 255, 128};
    /** ROW under ABOVE, as each filter tells it with points of two bytes, worked out by hand. */
    private static final int[][] TOLD = {
        {10, 200, 3, 40, 255, 128},
        {10, 200, 249, 96, 252, 88},
        {166, 193, 9, 10, 255, 129},
        {216, 197, 129, 181, 254, 237},
        {166, 193, 159, 96, 255, 129}};

    public static void main(String[] args) {
        filterTells();
        filterOfTheFirstRow();
        filterWithPointsLongerThanTheRow();
        filterTakesTheFirstOfTheNearest();
        plainRestores();
        plainGoesByBytesAlreadyRestored();
        plainUndoesFilterEverywhere();
        bestOfOneRow();
        bestTakesTheFirstOfTheLeast();
        bestMeasuresBytesWithSign();
        bestAnswerGoesRowByRow();
        undoTakesAFilterFromEachDigit();
        undoUndoesBest();
        CHECKS.end();
    }

    private static RowFilters threeRows(int[] middle) {
        RowFilters x = new RowFilters();
        x.open(3, 6, 2);
        Checks.setRow(x, 0, ABOVE);
        Checks.setRow(x, 1, middle);
        Checks.setRow(x, 2, 1, 2, 3, 4, 5, 6);
        return x;
    }

    private static void othersStay(String when, RowFilters x) {
        CHECKS.rowDue("above " + when, x, 0, ABOVE);
        CHECKS.rowDue("below " + when, x, 2, 1, 2, 3, 4, 5, 6);
    }

    private static void filterTells() {
        for (int f = 0; f < 5; f++) {
            RowFilters x = threeRows(ROW);
            x.filter(1, f);
            CHECKS.rowDue("told by " + f, x, 1, TOLD[f]);
            othersStay("told by " + f, x);
        }
    }

    private static void filterOfTheFirstRow() {
        int[][] told = {{9, 20, 250, 4}, {9, 11, 230, 10}, {9, 20, 250, 4}, {9, 16, 240, 135}, {9, 11, 230, 10}};
        for (int f = 0; f < 5; f++) {
            RowFilters x = new RowFilters();
            x.open(2, 4, 1);
            Checks.setRow(x, 0, 9, 20, 250, 4);
            Checks.setRow(x, 1, 77, 78, 79, 80);
            x.filter(0, f);
            CHECKS.rowDue("the first row told by " + f, x, 0, told[f]);
            CHECKS.rowDue("below the first row told by " + f, x, 1, 77, 78, 79, 80);
            x.plain(0, f);
            CHECKS.rowDue("the first row plain again from " + f, x, 0, 9, 20, 250, 4);
        }
    }

    private static void filterWithPointsLongerThanTheRow() {
        int[][] told = {{50, 60, 70}, {50, 60, 70}, {49, 251, 126}, {50, 28, 226}, {49, 251, 126}};
        for (int f = 0; f < 5; f++) {
            RowFilters x = new RowFilters();
            x.open(2, 3, 8);
            Checks.setRow(x, 0, 1, 65, 200);
            Checks.setRow(x, 1, 50, 60, 70);
            x.filter(1, f);
            CHECKS.rowDue("a short row told by " + f, x, 1, told[f]);
            x.plain(1, f);
            CHECKS.rowDue("a short row plain again from " + f, x, 1, 50, 60, 70);
        }
    }

    private static void filterTakesTheFirstOfTheNearest() {
        // {a, b, c, what filter 4 takes}; 40, 10, 20 is a tie of a with c, and 10, 40, 20 one of b with c.
        int[][] cases = {
            {40, 10, 20, 40}, {10, 40, 20, 40}, {10, 20, 15, 15}, {10, 20, 14, 14}, {20, 10, 14, 14},
            {10, 20, 0, 20}, {20, 10, 0, 20}, {10, 20, 255, 10}, {20, 10, 255, 10}, {5, 5, 5, 5}, {5, 5, 200, 5},
            {5, 5, 0, 5}, {30, 60, 30, 60}, {60, 30, 30, 60}, {255, 255, 0, 255}, {0, 255, 255, 0},
            {0, 0, 255, 0}, {255, 0, 255, 0}, {0, 255, 128, 128}, {0, 255, 127, 127}};
        for (int[] t : cases) {
            nearestIs(t[0], t[1], t[2], t[3]);
        }
        for (int a = 0; a < 256; a += 15) {
            for (int b = 0; b < 256; b += 5) {
                for (int c = 0; c < 256; c += 5) {
                    nearestIs(a, b, c, pickNearest(a, b, c));
                }
            }
        }
    }

    private static int pickNearest(int a, int b, int c) {
        int found = a;
        int[] all = {a, b, c};
        for (int one : all) {
            if (Math.abs(a + b - c - one) < Math.abs(a + b - c - found)) {
                found = one;
            }
        }
        return found;
    }

    private static void nearestIs(int a, int b, int c, int want) {
        RowFilters x = new RowFilters();
        x.open(2, 2, 1);
        Checks.setRow(x, 0, c, b);
        Checks.setRow(x, 1, a, 255);
        x.filter(1, 4);
        CHECKS.due("255 told by 4 beside " + a + ", under " + b + " and " + c, x.get(1, 1), 255 - want);
    }

    private static void plainRestores() {
        for (int f = 0; f < 5; f++) {
            RowFilters x = threeRows(TOLD[f]);
            x.plain(1, f);
            CHECKS.rowDue("plain from " + f, x, 1, ROW);
            othersStay("plain from " + f, x);
        }
    }

    private static void plainGoesByBytesAlreadyRestored() {
        RowFilters x = new RowFilters();
        x.open(2, 5, 1);
        Checks.setRow(x, 0, 100, 100, 100, 100, 100);
        Checks.setRow(x, 1, 60, 60, 60, 60, 60);
        x.plain(1, 1);
        CHECKS.rowDue("plain from 1", x, 1, 60, 120, 180, 240, 44);
        Checks.setRow(x, 1, 60, 60, 60, 60, 60);
        x.plain(1, 3);
        CHECKS.rowDue("plain from 3", x, 1, 110, 165, 192, 206, 213);
        x.plain(0, 1);
        CHECKS.rowDue("the first row plain from 1", x, 0, 100, 200, 44, 144, 244);
    }

    private static void plainUndoesFilterEverywhere() {
        int[][] shapes = {{1, 1, 1}, {1, 40, 3}, {5, 7, 8}, {4, 9, 4}, {15, 1, 2}, {8, 16, 7}};
        for (int[] shape : shapes) {
            RowFilters x = new RowFilters();
            x.open(shape[0], shape[1], shape[2]);
            x.fill(987654, 0x13579bdf, 2468);
            int before = x.hash();
            for (int y = 0; y < shape[0]; y++) {
                for (int f = 0; f < 5; f++) {
                    x.filter(y, f);
                    x.plain(y, f);
                    CHECKS.due("hash() after row " + y + " was told by " + f + " and plain again", x.hash(), before);
                    x.plain(y, f);
                    x.filter(y, f);
                    CHECKS.due("hash() after row " + y + " was plain from " + f + " and told again", x.hash(), before);
                }
            }
        }
    }

    private static void bestOfOneRow() {
        RowFilters x = new RowFilters();
        CHECKS.due("best() of a new object", x.best(), 5);
        x.open(1, 4, 1);
        Checks.setRow(x, 0, 100, 101, 102, 103);
        CHECKS.due("best() of a rising row", x.best(), 6);
        CHECKS.rowDue("a rising row told", x, 0, 100, 1, 1, 1);
        x.open(1, 4, 2);
        Checks.setRow(x, 0, 100, 7, 101, 8);
        CHECKS.due("best() of a rising row, points of two bytes", x.best(), 6);
        CHECKS.rowDue("a rising row told, points of two bytes", x, 0, 100, 7, 1, 1);
        x.open(1, 3, 1);
        Checks.setRow(x, 0, 1, 255, 1);
        CHECKS.due("best() of small bytes", x.best(), 5);
        CHECKS.rowDue("small bytes told", x, 0, 1, 255, 1);
    }

    private static void bestTakesTheFirstOfTheLeast() {
        // Rows alone: filters 0 and 2 tell the same, and 1 and 4 do.
        RowFilters x = new RowFilters();
        x.open(1, 2, 1);
        Checks.setRow(x, 0, 10, 10);
        CHECKS.due("best(), 1 before 4", x.best(), 6);
        RowFilters same = Checks.twoRows(new int[] {9, 9, 9}, new int[] {9, 9, 9});
        // The second row told by 2 and by 4 is 0 0 0.
        CHECKS.due("best(), 2 before 4", same.best(), 5 * 6 + 2);
        CHECKS.rowDue("told by 2", same, 1, 0, 0, 0);
        RowFilters mean = Checks.twoRows(new int[] {0, 60, 120}, new int[] {0, 30, 75});
        CHECKS.due("best() by 3", mean.best() % 5, 3);
        CHECKS.rowDue("told by 3", mean, 1, 0, 0, 0);
        RowFilters paeth = Checks.twoRows(new int[] {0, 0, 60, 60}, new int[] {10, 90, 90, 90});
        CHECKS.due("best() by 1, 4 tells as little", paeth.best() % 5, 1);
        RowFilters four = Checks.twoRows(new int[] {90, 10, 90, 90}, new int[] {90, 10, 10, 10});
        CHECKS.due("best() by 4", four.best() % 5, 4);
        CHECKS.rowDue("told by 4", four, 1, 0, 0, 176, 0);
    }

    private static void bestMeasuresBytesWithSign() {
        RowFilters x = new RowFilters();
        x.open(1, 2, 1);
        // 0: 1 and 55 in size, 56; 1: 1 and 54 in size, 55.
        Checks.setRow(x, 0, 255, 201);
        CHECKS.due("best() of 255, 201", x.best(), 6);
        CHECKS.rowDue("told", x, 0, 255, 202);
        // 0: 128 and 1, 129; 1: 128 and 127, 255.
        Checks.setRow(x, 0, 128, 1);
        CHECKS.due("best() of 128, 1", x.best(), 5);
        // 0: 64 and 128, 192; 1: 64 and 64, 128; 128 counts 128 and not 0 or -128.
        Checks.setRow(x, 0, 64, 128);
        CHECKS.due("best() of 64, 128", x.best(), 6);
    }

    private static void bestAnswerGoesRowByRow() {
        RowFilters x = new RowFilters();
        x.open(3, 4, 1);
        Checks.setRow(x, 0, 100, 100, 100, 100);
        Checks.setRow(x, 1, 0, 0, 0, 0);
        Checks.setRow(x, 2, 90, 91, 92, 93);
        CHECKS.due("best() by 1, 0, 1", x.best(), ((5 + 1) * 5 + 0) * 5 + 1);
        CHECKS.rowDue("told", x, 0, 100, 0, 0, 0);
        CHECKS.rowDue("told", x, 1, 0, 0, 0, 0);
        CHECKS.rowDue("told", x, 2, 90, 1, 1, 1);
    }

    private static void undoTakesAFilterFromEachDigit() {
        int[] digits = {3, 1, 4, 2, 0, 4, 3, 1};
        int f = 0;
        for (int y = 7; y >= 0; y--) {
            f = 5 * f + digits[y];
        }
        RowFilters told = new RowFilters();
        RowFilters byRow = new RowFilters();
        told.open(8, 6, 2);
        byRow.open(8, 6, 2);
        told.fill(13579, 0x0badcafe, 24680);
        byRow.fill(13579, 0x0badcafe, 24680);
        told.undo(f);
        for (int y = 0; y < 8; y++) {
            byRow.plain(y, digits[y]);
            for (int i = 0; i < 6; i++) {
                CHECKS.due("get(" + y + ", " + i + ") after undo(" + f + ")", told.get(y, i), byRow.get(y, i));
            }
        }
    }

    private static void undoUndoesBest() {
        for (int seed = 1; seed <= 60; seed++) {
            RowFilters x = new RowFilters();
            int h = 1 + seed % 8;
            x.open(h, 1 + seed % 13, 1 + seed % 5);
            x.fill(seed * 7919, seed * 104729, seed * 1299709);
            int before = x.hash();
            int answer = x.best();
            int f = 0;
            for (int y = h - 1; y >= 0; y--) {
                f += (answer % 5) * (int) Math.pow(5, y);
                answer /= 5;
            }
            CHECKS.due("what best() answered before its filters", answer, 1);
            x.undo(f);
            CHECKS.due("hash() after best() and undo(" + f + ")", x.hash(), before);
        }
    }
}
