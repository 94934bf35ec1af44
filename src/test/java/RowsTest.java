/** Promises 1 to 5 and 10: a new object, open, set, get, fill, hash. */
public final class RowsTest {
    private static final Checks CHECKS = new Checks();

    public static void main(String[] args) {
        newObject();
        newObjectTellsItsOnlyByteAsItIs();
        openMakesRowsOfZeros();
        openAtItsEdges();
        openRefuses();
        openKeepsThePointSizeWhenRefused();
        setAndGet();
        setRefuses();
        getRefuses();
        fillTakesTheHighestByte();
        fillWraps();
        fillGoesRowByRow();
        hashGoesRowByRow();
        hashTakesOnlyTheOpenRows();
        objectsAreApart();
        CHECKS.end();
    }

    private static void newObject() {
        RowFilters x = new RowFilters();
        CHECKS.due("hash() of a new object", x.hash(), 31);
        CHECKS.due("get(0, 0) of a new object", x.get(0, 0), 0);
        CHECKS.hasShape("of a new object", x, 1, 1);
        CHECKS.due("set(0, 0, 7) of a new object", x.set(0, 0, 7), 0);
        CHECKS.due("get(0, 0) after set", x.get(0, 0), 7);
    }

    private static void newObjectTellsItsOnlyByteAsItIs() {
        // Nothing stands before or above the only byte, so every filter takes 0 from it.
        for (int f = 0; f < 5; f++) {
            RowFilters x = new RowFilters();
            x.set(0, 0, 200);
            x.filter(0, f);
            CHECKS.due("the only byte told by " + f, x.get(0, 0), 200);
            x.plain(0, f);
            CHECKS.due("the only byte told by " + f + " and plain again", x.get(0, 0), 200);
        }
    }

    private static void openMakesRowsOfZeros() {
        RowFilters x = new RowFilters();
        x.open(64, 64, 3);
        x.fill(77, 0x01020304, -1);
        x.open(2, 3, 1);
        CHECKS.due("hash() after open(2, 3, 1)", x.hash(), 31 * 31 * 31 * 31 * 31 * 31);
        CHECKS.hasShape("after open(2, 3, 1)", x, 2, 3);
        x.open(64, 64, 3);
        for (int y = 0; y < 64; y++) {
            for (int i = 0; i < 64; i++) {
                CHECKS.due("get(" + y + ", " + i + ") after open(64, 64, 3) again", x.get(y, i), 0);
            }
        }
    }

    private static void openAtItsEdges() {
        int[][] shapes = {{1, 1}, {1, 4096}, {4096, 1}, {64, 64}, {2, 2048}, {2048, 2}, {3, 1365}, {1365, 3}, {63, 65}};
        for (int[] shape : shapes) {
            for (int s = 1; s <= 8; s++) {
                RowFilters x = new RowFilters();
                x.open(shape[0], shape[1], s);
                CHECKS.hasShape("after open(" + shape[0] + ", " + shape[1] + ", " + s + ")", x, shape[0], shape[1]);
            }
        }
    }

    private static void openRefuses() {
        int[][] wrong = {
            {0, 1, 1}, {1, 0, 1}, {0, 0, 1}, {-1, 1, 1}, {1, -1, 1}, {-1, -1, 1}, {-64, -64, 1},
            {1, 1, 0}, {1, 1, 9}, {1, 1, -1}, {1, 1, Integer.MIN_VALUE}, {1, 1, Integer.MAX_VALUE},
            {1, 4097, 1}, {4097, 1, 1}, {64, 65, 1}, {65, 64, 1}, {3, 1366, 1}, {1366, 3, 1}, {4096, 4096, 1},
            {65536, 65536, 1}, {65537, 65536, 1}, {1 << 30, 4, 1}, {4, 1 << 30, 1}, {1431655766, 3, 1}, {3, 1431655766, 1},
            {Integer.MAX_VALUE, Integer.MAX_VALUE, 1}, {Integer.MIN_VALUE, 1, 1}, {1, Integer.MIN_VALUE, 1},
            {Integer.MIN_VALUE, Integer.MIN_VALUE, 1}, {0, Integer.MAX_VALUE, 1}, {Integer.MAX_VALUE, 0, 1}};
        RowFilters x = new RowFilters();
        x.open(3, 4, 2);
        x.fill(5, 0x0a0b0c0d, 17);
        for (int[] w : wrong) {
            CHECKS.refusedUnchanged("open(" + w[0] + ", " + w[1] + ", " + w[2] + ")", x, 3, 4,
                () -> x.open(w[0], w[1], w[2]));
        }
    }

    private static void openKeepsThePointSizeWhenRefused() {
        RowFilters x = new RowFilters();
        x.open(1, 4, 2);
        Checks.setRow(x, 0, 10, 20, 40, 80);
        CHECKS.refused("open(1, 4097, 1)", () -> x.open(1, 4097, 1));
        CHECKS.refused("open(1, 4, 9)", () -> x.open(1, 4, 9));
        x.filter(0, 1);
        CHECKS.rowDue("told by 1, points of two bytes", x, 0, 10, 20, 30, 60);
    }

    private static void setAndGet() {
        RowFilters x = new RowFilters();
        x.open(3, 5, 1);
        for (int k = 0; k < 15; k++) {
            CHECKS.due("first set of byte " + k, x.set(k / 5, k % 5, 255 - 17 * k), 0);
        }
        for (int k = 0; k < 15; k++) {
            CHECKS.due("get of byte " + k, x.get(k / 5, k % 5), 255 - 17 * k);
            CHECKS.due("second set of byte " + k, x.set(k / 5, k % 5, k), 255 - 17 * k);
            CHECKS.due("get of byte " + k + " again", x.get(k / 5, k % 5), k);
        }
        for (int v = 0; v < 256; v++) {
            x.set(2, 4, v);
            CHECKS.due("get after set of " + v, x.get(2, 4), v);
        }
    }

    private static void setRefuses() {
        RowFilters x = new RowFilters();
        x.open(3, 5, 1);
        x.fill(3, 0x01234567, 99);
        int[][] wrong = {
            {-1, 0, 0}, {3, 0, 0}, {0, -1, 0}, {0, 5, 0}, {1, -1, 0}, {1, 5, 0}, {2, 5, 0}, {0, 14, 0},
            {0, 0, -1}, {0, 0, 256}, {2, 4, 256}, {0, 0, Integer.MIN_VALUE}, {0, 0, Integer.MAX_VALUE},
            {Integer.MIN_VALUE, 0, 0}, {Integer.MAX_VALUE, 0, 0}, {0, Integer.MIN_VALUE, 0},
            {0, Integer.MAX_VALUE, 0}, {-1, 5, 0}, {1 << 30, 0, 0}, {858993460, -3, 1}};
        for (int[] w : wrong) {
            CHECKS.refusedUnchanged("set(" + w[0] + ", " + w[1] + ", " + w[2] + ")", x, 3, 5,
                () -> x.set(w[0], w[1], w[2]));
        }
    }

    private static void getRefuses() {
        RowFilters x = new RowFilters();
        x.open(3, 5, 1);
        x.fill(3, 0x01234567, 99);
        int[][] wrong = {
            {-1, 0}, {3, 0}, {0, -1}, {0, 5}, {1, -1}, {1, 5}, {2, 5}, {0, 14}, {-1, 5}, {4095, 0}, {0, 4095},
            {Integer.MIN_VALUE, 0}, {Integer.MAX_VALUE, 0}, {0, Integer.MIN_VALUE}, {0, Integer.MAX_VALUE}};
        for (int[] w : wrong) {
            CHECKS.refusedUnchanged("get(" + w[0] + ", " + w[1] + ")", x, 3, 5, () -> x.get(w[0], w[1]));
        }
    }

    private static void fillTakesTheHighestByte() {
        RowFilters x = new RowFilters();
        x.open(1, 4, 1);
        x.fill(0, 0, 0x80ffffff);
        CHECKS.rowDue("after fill(0, 0, 0x80ffffff)", x, 0, 128, 128, 128, 128);
        x.fill(0, 1 << 24, 0);
        CHECKS.rowDue("after fill(0, 1 << 24, 0)", x, 0, 0, 1, 2, 3);
        x.fill(1 << 24, 0, 0);
        CHECKS.rowDue("after fill(1 << 24, 0, 0)", x, 0, 0, 1, 4, 9);
        x.fill(1 << 24, 2 << 24, 3 << 24);
        CHECKS.rowDue("after fill with all three", x, 0, 3, 6, 11, 18);
        x.fill(0, 0, -1);
        CHECKS.rowDue("after fill(0, 0, -1)", x, 0, 255, 255, 255, 255);
        x.fill(0, 0, 0x00ffffff);
        CHECKS.rowDue("after fill(0, 0, 0x00ffffff)", x, 0, 0, 0, 0, 0);
    }

    private static void fillWraps() {
        int[][] numbers = {
            {Integer.MAX_VALUE, Integer.MAX_VALUE, Integer.MAX_VALUE}, {Integer.MIN_VALUE, Integer.MIN_VALUE, -1},
            {123456789, -987654321, 5}, {-1, -1, -1}, {1 << 20, 1 << 30, 0x7f000000}};
        RowFilters x = new RowFilters();
        x.open(16, 256, 1);
        for (int[] t : numbers) {
            x.fill(t[0], t[1], t[2]);
            for (int k = 0; k < 4096; k++) {
                long value = (long) t[0] * ((long) k * k) + (long) t[1] * k + t[2];
                CHECKS.due("byte " + k + " after fill(" + t[0] + ", " + t[1] + ", " + t[2] + ")",
                    x.get(k / 256, k % 256), (value >> 24) & 255);
            }
        }
    }

    private static void fillGoesRowByRow() {
        RowFilters x = new RowFilters();
        x.open(3, 2, 1);
        x.fill(0, 1 << 24, 0);
        CHECKS.rowDue("after fill", x, 0, 0, 1);
        CHECKS.rowDue("after fill", x, 1, 2, 3);
        CHECKS.rowDue("after fill", x, 2, 4, 5);
        CHECKS.hasShape("after fill", x, 3, 2);
    }

    private static void hashGoesRowByRow() {
        RowFilters x = new RowFilters();
        x.open(2, 2, 1);
        Checks.setRow(x, 0, 1, 2);
        Checks.setRow(x, 1, 3, 255);
        CHECKS.due("hash()", x.hash(), 31L * 31 * 31 * 31 + 31L * 31 * 31 + 2 * 31 * 31 + 3 * 31 + 255);
        CHECKS.due("hash() again", x.hash(), 31L * 31 * 31 * 31 + 31L * 31 * 31 + 2 * 31 * 31 + 3 * 31 + 255);
        x.open(1, 4096, 1);
        x.fill(0, 0, 0xff000000);
        int g = 1;
        for (int k = 0; k < 4096; k++) {
            g = 31 * g + 255;
        }
        CHECKS.due("hash() of 4096 bytes of 255, which wraps", x.hash(), g);
    }

    private static void hashTakesOnlyTheOpenRows() {
        RowFilters x = new RowFilters();
        x.open(4, 4, 1);
        x.fill(0, 0, -1);
        x.open(1, 2, 1);
        x.fill(0, 0, 0x05000000);
        CHECKS.due("hash() of two bytes of 5", x.hash(), 31 * 31 + 5 * 31 + 5);
    }

    private static void objectsAreApart() {
        RowFilters one = new RowFilters();
        RowFilters other = new RowFilters();
        one.open(2, 2, 1);
        one.fill(0, 0, -1);
        CHECKS.due("hash() of an object beside another", other.hash(), 31);
        CHECKS.hasShape("of an object beside another", other, 1, 1);
    }
}
