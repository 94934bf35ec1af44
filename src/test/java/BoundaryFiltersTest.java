/** The sentences on filters (FILTERS, promises 6 to 9) that name a boundary case, a test for each. */
public final class BoundaryFiltersTest {
    private static final Checks CHECKS = new Checks();
    private static final int[] EDGES = {0, 1, 2, 63, 64, 65, 126, 127, 128, 129, 130, 191, 192, 193, 254, 255};

    public static void main(String[] args) {
        CHECKS.sentence("Terms: FILTERS: (0 where there is none)", BoundaryFiltersTest::zeroWhereThereIsNone);
        CHECKS.sentence("Terms: FILTERS: (the first of them)", BoundaryFiltersTest::firstOfTheNearest);
        CHECKS.sentence("Terms: FILTERS: all as bytes that wrap", BoundaryFiltersTest::bytesWrap);
        CHECKS.sentence("Terms: FILTERS: a, b, c, x are 0 .. 255 here", BoundaryFiltersTest::bytesHaveNoSign);
        CHECKS.sentence("Terms: FILTERS: / 2 rounds down", BoundaryFiltersTest::halvesRoundDown);
        CHECKS.sentence("Promise 6: which ROWS and FILTERS there are", BoundaryFiltersTest::filterWhatIsThere);
        CHECKS.sentence("Promise 6: ROW y, which is as it is", BoundaryFiltersTest::filterGoesByTheRowAsItWas);
        CHECKS.sentence("Promise 6: those above and below stay", BoundaryFiltersTest::filterLeavesOtherRows);
        CHECKS.sentence("Promise 6: (By the ROW above as it stands there, whether it is told or not.)",
            BoundaryFiltersTest::filterGoesByTheRowAboveAsItStands);
        CHECKS.sentence("Promise 7: which ROWS and FILTERS there are", BoundaryFiltersTest::plainWhatIsThere);
        CHECKS.sentence("Promise 7: with the ROW above as it is", BoundaryFiltersTest::plainGoesByTheRowAboveAsItIs);
        CHECKS.sentence("Promise 8: all as bytes with sign in size", BoundaryFiltersTest::bestGoesBySize);
        CHECKS.sentence("Promise 8: (the first of these)", BoundaryFiltersTest::bestTakesTheFirst);
        CHECKS.sentence("Promise 8: (Each by the ROW above as it was, not as it is told.)",
            BoundaryFiltersTest::bestGoesByTheRowAboveAsItWas);
        CHECKS.sentence("Promise 8: it wraps", BoundaryFiltersTest::bestAnswerWraps);
        CHECKS.sentence("Promise 9: FILTER (f / 5^y, rounded down, modulo 5) for ROW y of the first eight",
            BoundaryFiltersTest::undoTakesDigits);
        CHECKS.sentence("Promise 9: 0 for others", BoundaryFiltersTest::undoLeavesOtherRows);
        CHECKS.sentence("Promise 9: (from the first on, each by the ROW above as it became;)",
            BoundaryFiltersTest::undoGoesByTheRowAboveAsItBecame);
        CHECKS.sentence("Promise 9: f 0 .. 390624", BoundaryFiltersTest::undoNumbers);
        CHECKS.end();
    }

    /** The byte x as filter f tells it, beside a and under b, with c above a. */
    private static int told(int x, int a, int b, int c, int f) {
        RowFilters rows = Checks.twoRows(new int[] {c, b}, new int[] {a, x});
        rows.filter(1, f);
        return rows.get(1, 1);
    }

    /** The byte that filter f tells as t, beside a and under b, with c above a. */
    private static int restored(int t, int a, int b, int c, int f) {
        // The byte before is to become a, so a is told by f first.
        RowFilters rows = Checks.twoRows(new int[] {c, b}, new int[] {a, 0});
        rows.filter(1, f);
        rows.set(1, 1, t);
        rows.plain(1, f);
        CHECKS.due("the byte before, plain again from " + f, rows.get(1, 0), a);
        return rows.get(1, 1);
    }

    private static void zeroWhereThereIsNone() {
        for (int s = 1; s <= 8; s++) {
            for (int n = 1; n <= 2 * s + 1; n++) {
                firstRowHasNoneAbove(n, s);
                firstPointHasNoneBefore(n, s);
            }
        }
        RowFilters x = Checks.opened(2, 1, 1);
        x.fill(0, 0, 200 << 24);
        CHECKS.due("best(), the first byte by 0 and the one below it by 2", x.best(), 5 * 5 + 2);
        CHECKS.rowDue("after best()", x, 0, 200);
        x.undo(4 + 5 * 4);
        CHECKS.rowDue("after undo by 4, nothing above", x, 0, 200);
        CHECKS.rowDue("after undo by 4, nothing before", x, 1, 200);
    }

    private static RowFilters threeRowsOf(int n, int s) {
        RowFilters x = Checks.opened(3, n, s);
        x.fill(0, 7 << 24, 130 << 24);
        return x;
    }

    private static void firstRowHasNoneAbove(int n, int s) {
        for (int f = 0; f < 5; f++) {
            RowFilters x = threeRowsOf(n, s);
            x.filter(0, f);
            for (int i = 0; i < n; i++) {
                int a = i < s ? 0 : 130 + 7 * (i - s) & 255;
                int taken = f == 1 || f == 4 ? a : f == 3 ? a / 2 : 0;
                CHECKS.due("byte " + i + " of the first row told by " + f + ", points of " + s,
                    x.get(0, i), 130 + 7 * i - taken & 255);
            }
            x.plain(0, f);
            CHECKS.due("hash() after plain from " + f, x.hash(), threeRowsOf(n, s).hash());
        }
    }

    private static void firstPointHasNoneBefore(int n, int s) {
        for (int f = 0; f < 5; f++) {
            RowFilters x = threeRowsOf(n, s);
            x.filter(1, f);
            for (int i = 0; i < Math.min(n, s); i++) {
                int b = 130 + 7 * i & 255;
                int taken = f == 2 || f == 4 ? b : f == 3 ? b / 2 : 0;
                CHECKS.due("byte " + i + " of the second row told by " + f + ", points of " + s,
                    x.get(1, i), 130 + 7 * (n + i) - taken & 255);
            }
            x.plain(1, f);
            CHECKS.due("hash() after plain from " + f, x.hash(), threeRowsOf(n, s).hash());
        }
    }

    private static void firstOfTheNearest() {
        for (int c = 0; c < 256; c += 3) {
            for (int d = -127; d < 128; d += 2) {
                // Either way a + b - c is c - d, midway between c and c - 2 d.
                if (c - 2 * d >= 0 && c - 2 * d < 256 && c + d >= 0 && c + d < 256) {
                    nearestIs("a as near as c", c - 2 * d, c + d, c, c - 2 * d);
                    nearestIs("b as near as c", c + d, c - 2 * d, c, c - 2 * d);
                }
            }
        }
        nearestIs("all as near", 9, 9, 9, 9);
        nearestIs("a as near as b", 9, 9, 200, 9);
        nearestIs("c nearest, between a and b", 10, 20, 15, 15);
        nearestIs("c nearest, beside the middle", 0, 255, 128, 128);
        nearestIs("b nearest", 10, 20, 10, 20);
        nearestIs("a nearest", 20, 10, 10, 20);
    }

    private static void nearestIs(String when, int a, int b, int c, int want) {
        String call = "4 by a " + a + ", b " + b + ", c " + c + ", " + when;
        CHECKS.due("filter " + call, told(255, a, b, c, 4), 255 - want);
        CHECKS.due("plain " + call, restored(255 - want, a, b, c, 4), 255);
    }

    private static void bytesWrap() {
        for (int x : EDGES) {
            for (int v : EDGES) {
                for (int f = 1; f < 5; f++) {
                    // With v on all sides every filter but 0 takes v.
                    CHECKS.due(x + " told by " + f + " among " + v, told(x, v, v, v, f), x < v ? x - v + 256 : x - v);
                    CHECKS.due(x + " plain from " + f + " among " + v, restored(x, v, v, v, f),
                        x + v > 255 ? x + v - 256 : x + v);
                }
                CHECKS.due(x + " told by 0 among " + v, told(x, v, v, v, 0), x);
                CHECKS.due(x + " plain from 0 among " + v, restored(x, v, v, v, 0), x);
            }
        }
    }

    private static void bytesHaveNoSign() {
        CHECKS.due("0 told by 3, a 200, b 0", told(0, 200, 0, 0, 3), 256 - 100);
        CHECKS.due("0 told by 3, a 128, b 128", told(0, 128, 128, 0, 3), 128);
        CHECKS.due("0 told by 3, a 255, b 255, more than a byte", told(0, 255, 255, 0, 3), 1);
        CHECKS.due("255 told by 4, a 130, b 120, c 125", told(255, 130, 120, 125, 4), 255 - 125);
        CHECKS.due("255 told by 4, a 255, b 255, c 0, beyond a byte", told(255, 255, 255, 0, 4), 0);
        CHECKS.due("255 told by 4, a 0, b 10, c 200, below 0", told(255, 0, 10, 200, 4), 255);
        CHECKS.due("255 told by 4, a 250, b 100, c 60, beyond a byte", told(255, 250, 100, 60, 4), 5);
        CHECKS.due("130 plain from 3, a 200, b 0", restored(30, 200, 0, 0, 3), 130);
        CHECKS.due("250 plain from 4, a 130, b 120, c 125", restored(125, 130, 120, 125, 4), 250);
        for (int v : EDGES) {
            CHECKS.due(v + " told by 0", told(v, 0, 0, 0, 0), v);
            CHECKS.due(v + " plain from 0", restored(v, 0, 0, 0, 0), v);
        }
    }

    private static void halvesRoundDown() {
        int[][] halves = {
            {0, 0, 0}, {0, 1, 0}, {1, 0, 0}, {1, 1, 1}, {1, 2, 1}, {2, 1, 1}, {0, 255, 127}, {255, 0, 127},
            {127, 128, 127}, {128, 127, 127}, {128, 129, 128}, {254, 255, 254}, {255, 254, 254}, {255, 255, 255}};
        for (int[] t : halves) {
            for (int x : new int[] {0, 255}) {
                // The half itself rounds down, not what is told, so that x 0 and x 255 lose the same.
                CHECKS.due(x + " told by 3, a " + t[0] + ", b " + t[1], told(x, t[0], t[1], 0, 3), x - t[2] & 255);
                CHECKS.due(x + " plain from 3, a " + t[0] + ", b " + t[1],
                    restored(x, t[0], t[1], 0, 3), x + t[2] & 255);
            }
        }
    }

    private static void filterWhatIsThere() {
        for (int h : new int[] {1, 3, 4096}) {
            CHECKS.takesFromTo("y of " + h, 0, h - 1, y -> Checks.opened(h, 1, 1).filter(y, 4));
            CHECKS.takesFromTo("f for the first of " + h, 0, 4, f -> Checks.opened(h, 1, 1).filter(0, f));
            CHECKS.takesFromTo("f for the last of " + h, 0, 4, f -> Checks.opened(h, 1, 1).filter(h - 1, f));
        }
    }

    private static void filterGoesByTheRowAsItWas() {
        RowFilters x = Checks.twoRows(new int[] {0, 0, 0, 0}, new int[] {10, 30, 60, 100});
        x.filter(1, 1);
        CHECKS.rowDue("told by 1", x, 1, 10, 20, 30, 40);
        x.open(1, 6, 2);
        Checks.setRow(x, 0, 10, 1, 30, 3, 60, 6);
        x.filter(0, 3);
        CHECKS.rowDue("told by 3, points of two", x, 0, 10, 1, 25, 3, 45, 5);
    }

    private static void filterLeavesOtherRows() {
        for (int y = 0; y < 4; y++) {
            for (int f = 0; f < 5; f++) {
                RowFilters x = fourRows();
                x.filter(y, f);
                othersAreLeft("filter", x, y, f);
            }
        }
    }

    private static RowFilters fourRows() {
        RowFilters x = Checks.opened(4, 5, 2);
        x.fill(987654, 0x13579bdf, 2468);
        return x;
    }

    private static void othersAreLeft(String call, RowFilters x, int y, int f) {
        RowFilters before = fourRows();
        for (int k = 0; k < 20; k++) {
            if (k / 5 != y) {
                CHECKS.due("byte " + k + " after " + call + "(" + y + ", " + f + ")",
                    x.get(k / 5, k % 5), before.get(k / 5, k % 5));
            }
        }
    }

    private static RowFilters threeRows() {
        RowFilters x = Checks.opened(3, 2, 1);
        Checks.setRow(x, 0, 10, 30);
        Checks.setRow(x, 1, 15, 60);
        Checks.setRow(x, 2, 100, 110);
        return x;
    }

    private static void filterGoesByTheRowAboveAsItStands() {
        RowFilters down = threeRows();
        down.filter(1, 2);
        CHECKS.rowDue("told by 2", down, 1, 5, 30);
        down.filter(2, 2);
        CHECKS.rowDue("told by 2 under a told row", down, 2, 95, 80);
        RowFilters up = threeRows();
        up.filter(2, 2);
        up.filter(1, 2);
        CHECKS.rowDue("told by 2 before the row above was told", up, 2, 85, 50);
        RowFilters twice = threeRows();
        twice.filter(1, 1);
        twice.filter(1, 1);
        CHECKS.rowDue("told by 1 twice", twice, 1, 15, 30);
        twice.filter(2, 3);
        CHECKS.rowDue("told by 3 under a row told twice", twice, 2, 93, 45);
    }

    private static void plainWhatIsThere() {
        for (int h : new int[] {1, 3, 4096}) {
            CHECKS.takesFromTo("y of " + h, 0, h - 1, y -> Checks.opened(h, 1, 1).plain(y, 4));
            CHECKS.takesFromTo("f for the first of " + h, 0, 4, f -> Checks.opened(h, 1, 1).plain(0, f));
            CHECKS.takesFromTo("f for the last of " + h, 0, 4, f -> Checks.opened(h, 1, 1).plain(h - 1, f));
        }
    }

    private static void plainGoesByTheRowAboveAsItIs() {
        for (int y = 0; y < 4; y++) {
            for (int f = 0; f < 5; f++) {
                RowFilters x = fourRows();
                x.plain(y, f);
                othersAreLeft("plain", x, y, f);
            }
        }
        RowFilters x = threeRows();
        x.plain(2, 2);
        CHECKS.rowDue("plain from 2", x, 2, 115, 170);
        x.plain(1, 2);
        CHECKS.rowDue("plain from 2", x, 1, 25, 90);
        x.plain(2, 2);
        CHECKS.rowDue("plain from 2 under a row that has become another", x, 2, 140, 4);
        toldUpAndPlainDown();
    }

    private static void toldUpAndPlainDown() {
        RowFilters x = fourRows();
        for (int y = 3; y >= 0; y--) {
            x.filter(y, y + 1);
        }
        for (int y = 0; y < 4; y++) {
            x.plain(y, y + 1);
        }
        CHECKS.due("hash() of rows told from the last up and plain from the first down", x.hash(), fourRows().hash());
    }

    private static void bestGoesBySize() {
        for (int first : EDGES) {
            for (int second : EDGES) {
                // Alone in their row: filter 2 tells as 0 does and filter 4 as 1 does.
                int by0 = size(second);
                int by1 = size(second - first);
                int by3 = size(second - first / 2);
                int least = Math.min(by0, Math.min(by1, by3));
                int f = by0 == least ? 0 : by1 == least ? 1 : 3;
                RowFilters x = Checks.opened(1, 2, 1);
                Checks.setRow(x, 0, first, second);
                CHECKS.due("best() of " + first + ", " + second, x.best(), 5 + f);
            }
        }
        sumsOfFarBytes();
    }

    /** How far a byte that wraps is from 0, either way. */
    private static int size(int number) {
        int up = Math.floorMod(number, 256);
        return Math.min(up, 256 - up);
    }

    private static void sumsOfFarBytes() {
        // The most that a sum can be: 4096 bytes of 128 in size; by 1 it is 128 alone.
        RowFilters x = Checks.opened(1, 4096, 1);
        x.fill(0, 0, 128 << 24);
        CHECKS.due("best() of 4096 bytes of 128", x.best(), 6);
        // By 0 128 and 127, by 1 128 and 1; by 3 128 and 63.
        x.open(1, 2, 1);
        Checks.setRow(x, 0, 128, 127);
        CHECKS.due("best() of 128, 127", x.best(), 6);
    }

    private static void bestTakesTheFirst() {
        // The row above, the row, and the first of the filters that tell it by the least sum.
        int[][] ties = {
            {0, 0, 0, 0, 0, 4, 0}, {0, 0, 2, 0, 0, 0, 0}, {0, 0, 0, 2, 0, 0, 0}, {1, 0, 0, 0, 1, 0, 0},
            {2, 2, 3, 2, 0, 0, 0}, {2, 1, 2, 0, 1, 4, 1}, {0, 0, 2, 0, 1, 1, 1}, {0, 0, 1, 1, 1, 1, 1},
            {0, 0, 1, 0, 2, 1, 2}, {1, 0, 0, 1, 0, 0, 2}, {1, 0, 2, 2, 1, 1, 3}};
        // And rows with one such filter alone, each of the five.
        int[][] alone = {
            {0, 2, 0, 1, 0, 0, 0}, {1, 0, 0, 0, 1, 1, 1}, {0, 0, 1, 1, 0, 1, 2}, {0, 0, 2, 0, 0, 1, 3},
            {1, 0, 0, 2, 1, 1, 4}};
        for (int[] t : ties) {
            bestIs("the first of the least", t);
        }
        for (int[] t : alone) {
            bestIs("the only least", t);
        }
    }

    private static void bestIs(String when, int[] t) {
        int[] above = {t[0], t[1], t[2]};
        int[] row = {t[3], t[4], t[5]};
        RowFilters x = Checks.twoRows(above, row);
        CHECKS.due("best(), " + when, Math.floorMod(x.best(), 5), t[6]);
        RowFilters told = Checks.twoRows(above, row);
        told.filter(1, t[6]);
        CHECKS.rowDue("after best(), " + when, x, 1, told.get(1, 0), told.get(1, 1), told.get(1, 2));
    }

    private static void bestGoesByTheRowAboveAsItWas() {
        RowFilters x = Checks.opened(4, 3, 1);
        for (int y = 0; y < 4; y++) {
            Checks.setRow(x, y, 100, 50, 120);
        }
        // The first is 195 by 3 and more by others; each other row is as the one above was: 0 0 0 by 2.
        CHECKS.due("best() of equal rows", x.best(), (((5 + 3) * 5 + 2) * 5 + 2) * 5 + 2);
        CHECKS.rowDue("told by 3", x, 0, 100, 0, 95);
        for (int y = 1; y < 4; y++) {
            CHECKS.rowDue("told by 2", x, y, 0, 0, 0);
        }
    }

    private static void bestAnswerWraps() {
        int[] powers = {1220703125, 1808548329, 452807053, -2030932031};
        for (int h = 13; h < 17; h++) {
            CHECKS.due("best() of " + h + " rows of 0", Checks.opened(h, 1, 1).best(), powers[h - 13]);
        }
        // One row by 0 and the others by 2, as in (5 v + 2) for so many.
        for (int h = 1; h <= 4096; h = h * 2) {
            RowFilters x = Checks.opened(h, 1, 1);
            x.fill(0, 0, 7 << 24);
            long v = 5;
            for (int y = 1; y < h; y++) {
                v = (5 * v + 2) % (1L << 32);
            }
            CHECKS.due("best() of " + h + " equal rows", x.best(), (int) v);
        }
    }

    private static RowFilters rowsOfTens(int h) {
        RowFilters x = Checks.opened(h, 2, 1);
        x.fill(0, 0, 10 << 24);
        return x;
    }

    private static void undoTakesDigits() {
        int power = 1;
        for (int y = 0; y < 8; y++) {
            for (int digit = 0; digit < 5; digit++) {
                RowFilters byRow = rowsOfTens(8);
                byRow.plain(y, digit);
                RowFilters undone = rowsOfTens(8);
                undone.undo(digit * power);
                CHECKS.due("hash() after undo(" + digit * power + ")", undone.hash(), byRow.hash());
                roundedDown(y, digit, power);
            }
            power *= 5;
        }
    }

    /** With all rows above at 4, the digit of row y is still the same: what is left over is dropped. */
    private static void roundedDown(int y, int digit, int power) {
        RowFilters byRow = rowsOfTens(8);
        for (int above = 0; above < y; above++) {
            byRow.plain(above, 4);
        }
        byRow.plain(y, digit);
        RowFilters undone = rowsOfTens(8);
        undone.undo(digit * power + power - 1);
        CHECKS.due("hash() after undo(" + (digit * power + power - 1) + ")", undone.hash(), byRow.hash());
    }

    private static void undoLeavesOtherRows() {
        for (int f : new int[] {0, 1, 195312, 390623, 390624}) {
            for (int h : new int[] {9, 10, 100, 2048}) {
                RowFilters x = rowsOfTens(h);
                x.undo(f);
                for (int y = 8; y < h; y += 1 + h / 100) {
                    CHECKS.rowDue("of " + h + " rows after undo(" + f + ")", x, y, 10, 10);
                }
                CHECKS.rowDue("of " + h + " rows after undo(" + f + ")", x, h - 1, 10, 10);
            }
        }
        everyOtherRowIsLeft();
        // Fewer than eight rows: the digits of those that are not there change nothing.
        RowFilters few = rowsOfTens(2);
        few.undo(390624 - 24);
        CHECKS.rowDue("of two rows after undo by 0", few, 0, 10, 10);
        CHECKS.rowDue("of two rows after undo by 0", few, 1, 10, 10);
    }

    private static void everyOtherRowIsLeft() {
        RowFilters x = Checks.opened(4096, 1, 1);
        x.fill(0, 0, 1 << 24);
        x.undo(390624);
        int g = 1;
        for (int y = 0; y < 4096; y++) {
            g = 31 * g + (y < 8 ? y + 1 : 1);
        }
        CHECKS.due("hash() of 4096 rows after undo(390624)", x.hash(), g);
    }

    private static void undoGoesByTheRowAboveAsItBecame() {
        RowFilters x = Checks.opened(4, 2, 1);
        x.fill(0, 0, 100 << 24);
        x.undo(1 + 2 * 5 + 2 * 25 + 4 * 125);
        CHECKS.rowDue("undone by 1", x, 0, 100, 200);
        CHECKS.rowDue("undone by 2", x, 1, 200, 44);
        CHECKS.rowDue("undone by 2", x, 2, 44, 144);
        // By 4: nothing before, so 44 above; then of 144, 144 and 44 the first is the nearest to 244.
        CHECKS.rowDue("undone by 4", x, 3, 144, 244);
    }

    private static void undoNumbers() {
        for (int h : new int[] {1, 2, 8, 9, 64}) {
            CHECKS.takesFromTo("f of " + h + " rows", 0, 390624, f -> Checks.opened(h, 3, 2).undo(f));
        }
        RowFilters none = rowsOfTens(8);
        none.undo(0);
        CHECKS.due("hash() after undo(0)", none.hash(), rowsOfTens(8).hash());
        RowFilters all = rowsOfTens(8);
        all.undo(390624);
        for (int y = 0; y < 8; y++) {
            CHECKS.rowDue("after undo(390624)", all, y, 10 * y + 10, 10 * y + 20);
        }
    }
}
