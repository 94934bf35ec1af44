/** Promises 1 to 5 and 10, in ordinary use: a new object, open, set, get, fill, hash. */
public final class RowsTest {
    private static final Checks CHECKS = new Checks();

    public static void main(String[] args) {
        newObject();
        newObjectTellsItsOnlyByteAsItIs();
        openMakesRowsOfZeros();
        setAndGet();
        fillTakesTheHighestByte();
        fillGoesRowByRow();
        hashGoesRowByRow();
        hashTakesOnlyTheOpenRows();
        objectsAreApart();
        CHECKS.end();
    }

    private static void newObject() {
        RowFilters x = new RowFilters();
        CHECKS.due("hash() of a new object", x.hash(), 31);
        CHECKS.due("get(0, 0) of a new object", x.get(0, 0), 0);
        CHECKS.hasShape("of a new object", x, 1, 1);
        CHECKS.due("set(0, 0, 7) of a new object", x.set(0, 0, 7), 0);
        CHECKS.due("get(0, 0) after set", x.get(0, 0), 7);
    }

    private static void newObjectTellsItsOnlyByteAsItIs() {
        // Nothing stands before or above the only byte, so every filter takes 0 from it.
        for (int f = 0; f < 5; f++) {
            RowFilters x = new RowFilters();
            x.set(0, 0, 200);
            x.filter(0, f);
            CHECKS.due("the only byte told by " + f, x.get(0, 0), 200);
            x.plain(0, f);
            CHECKS.due("the only byte told by " + f + " and plain again", x.get(0, 0), 200);
        }
    }

    private static void openMakesRowsOfZeros() {
        RowFilters x = new RowFilters();
        x.open(64, 64, 3);
        x.fill(77, 0x01020304, -1);
        x.open(2, 3, 1);
        CHECKS.due("hash() after open(2, 3, 1)", x.hash(), 31 * 31 * 31 * 31 * 31 * 31);
        CHECKS.hasShape("after open(2, 3, 1)", x, 2, 3);
        x.open(20, 20, 3);
        for (int y = 0; y < 20; y++) {
            for (int i = 0; i < 20; i++) {
                CHECKS.due("get(" + y + ", " + i + ") after open(20, 20, 3)", x.get(y, i), 0);
            }
        }
    }

    private static void setAndGet() {
        RowFilters x = new RowFilters();
        x.open(3, 5, 1);
        for (int k = 0; k < 15; k++) {
            CHECKS.due("first set of byte " + k, x.set(k / 5, k % 5, 255 - 17 * k), 0);
        }
        for (int k = 0; k < 15; k++) {
            CHECKS.due("get of byte " + k, x.get(k / 5, k % 5), 255 - 17 * k);
            CHECKS.due("second set of byte " + k, x.set(k / 5, k % 5, k), 255 - 17 * k);
            CHECKS.due("get of byte " + k + " again", x.get(k / 5, k % 5), k);
        }
        for (int v = 0; v < 200; v++) {
            x.set(2, 4, 255 - v);
            CHECKS.due("get after set of " + (255 - v), x.get(2, 4), 255 - v);
        }
    }

    private static void fillTakesTheHighestByte() {
        RowFilters x = new RowFilters();
        x.open(1, 4, 1);
        x.fill(0, 0, 0x80ffffff);
        CHECKS.rowDue("after fill(0, 0, 0x80ffffff)", x, 0, 128, 128, 128, 128);
        x.fill(0, 1 << 24, 0);
        CHECKS.rowDue("after fill(0, 1 << 24, 0)", x, 0, 0, 1, 2, 3);
        x.fill(1 << 24, 0, 0);
        CHECKS.rowDue("after fill(1 << 24, 0, 0)", x, 0, 0, 1, 4, 9);
        x.fill(1 << 24, 2 << 24, 3 << 24);
        CHECKS.rowDue("after fill with all three", x, 0, 3, 6, 11, 18);
        x.fill(0, 0, -1);
        CHECKS.rowDue("after fill(0, 0, -1)", x, 0, 255, 255, 255, 255);
        x.fill(0, 0, 0x00ffffff);
        CHECKS.rowDue("after fill(0, 0, 0x00ffffff)", x, 0, 0, 0, 0, 0);
    }

    private static void fillGoesRowByRow() {
        RowFilters x = new RowFilters();
        x.open(3, 2, 1);
        x.fill(0, 1 << 24, 0);
        CHECKS.rowDue("after fill", x, 0, 0, 1);
        CHECKS.rowDue("after fill", x, 1, 2, 3);
        CHECKS.rowDue("after fill", x, 2, 4, 5);
        CHECKS.hasShape("after fill", x, 3, 2);
    }

    private static void hashGoesRowByRow() {
        RowFilters x = new RowFilters();
        x.open(2, 2, 1);
        Checks.setRow(x, 0, 1, 2);
        Checks.setRow(x, 1, 3, 255);
        CHECKS.due("hash()", x.hash(), 31L * 31 * 31 * 31 + 31L * 31 * 31 + 2 * 31 * 31 + 3 * 31 + 255);
        CHECKS.due("hash() again", x.hash(), 31L * 31 * 31 * 31 + 31L * 31 * 31 + 2 * 31 * 31 + 3 * 31 + 255);
        x.open(1, 4096, 1);
        x.fill(0, 0, 0xff000000);
        int g = 1;
        for (int k = 0; k < 4096; k++) {
            g = 31 * g + 255;
        }
        CHECKS.due("hash() of 4096 bytes of 255, which wraps", x.hash(), g);
    }

    private static void hashTakesOnlyTheOpenRows() {
        RowFilters x = new RowFilters();
        x.open(4, 4, 1);
        x.fill(0, 0, -1);
        x.open(1, 2, 1);
        x.fill(0, 0, 0x05000000);
        CHECKS.due("hash() of two bytes of 5", x.hash(), 31 * 31 + 5 * 31 + 5);
    }

    private static void objectsAreApart() {
        RowFilters one = new RowFilters();
        RowFilters other = new RowFilters();
        one.open(2, 2, 1);
        one.fill(0, 0, -1);
        CHECKS.due("hash() of an object beside another", other.hash(), 31);
        CHECKS.hasShape("of an object beside another", other, 1, 1);
    }
}
