/**
 * The sentences on the object and its rows (What it is, THE ROWS, promises 1 to 5 and 10) that name a
 * boundary case, a test for each.
 */
public final class BoundaryRowsTest {
    private static final Checks CHECKS = new Checks();
    private static final int MOST_CALLS = 512;

    private interface Asked {
        int of(RowFilters x);
    }

    private interface Changed {
        void by(RowFilters x);
    }

    public static void main(String[] args) {
        CHECKS.sentence("What it is: An object is used for at most 512 calls after it has been made",
            BoundaryRowsTest::calls512);
        CHECKS.sentence("Terms: h n at most 4096", BoundaryRowsTest::mostBytes);
        CHECKS.sentence("Terms: a POINT has s bytes, 1 .. 8", BoundaryRowsTest::pointSizes);
        CHECKS.sentence("Terms: All bytes are 0 at first, h 1, n 1, s 1", BoundaryRowsTest::atFirst);
        CHECKS.sentence("Promise 2: h, n 1 or more", BoundaryRowsTest::openFrom1);
        CHECKS.sentence("Promise 2: h n at most 4096", BoundaryRowsTest::openUpTo4096);
        CHECKS.sentence("Promise 2: s 1 .. 8", BoundaryRowsTest::openPointSizes);
        CHECKS.sentence("Promise 2: So many ROWS, all 0", BoundaryRowsTest::openMakesSoManyRows);
        CHECKS.sentence("Promise 3: Byte i of ROW y", BoundaryRowsTest::setWhatIsThere);
        CHECKS.sentence("Promise 3: v, 0 .. 255", BoundaryRowsTest::setValues);
        CHECKS.sentence("Promise 3: Answers what it was", BoundaryRowsTest::setAnswersWhatItWas);
        CHECKS.sentence("Promise 4: Byte i of ROW y", BoundaryRowsTest::getWhatIsThere);
        CHECKS.sentence("Promise 5: Byte k, row by row", BoundaryRowsTest::fillFromFirstToLast);
        CHECKS.sentence("Promise 5: the highest byte", BoundaryRowsTest::fillHighestByte);
        CHECKS.sentence("Promise 5: as ints that wrap", BoundaryRowsTest::fillWraps);
        CHECKS.sentence("Promise 10: From g 1 on, 31 g + byte, row by row", BoundaryRowsTest::hashFromFirstToLast);
        CHECKS.sentence("Promise 10: it wraps", BoundaryRowsTest::hashWraps);
        CHECKS.end();
    }

    private static void calls512() {
        Asked[] last = {
            x -> x.set(0, 0, 9), x -> x.get(1, 2), x -> x.best(), x -> x.hash(), x -> x.pass(6, 5, 7, true),
            x -> x.passOf(3, 3)};
        int[] due = {10, 10, 32, hashOf(10, 10, 10, 10, 10, 10), 3, 6};
        for (int k = 0; k < last.length; k++) {
            CHECKS.due("call 512, of kind " + k, last[k].of(usedFor(511)), due[k]);
        }
        changesUpTo511();
        changesAsCall512();
        setsUpTo512();
        refusedCallsUpTo512();
        largestRowsUpTo512();
    }

    /** Two rows of three bytes of 10, after so many calls. */
    private static RowFilters usedFor(int calls) {
        RowFilters x = Checks.opened(2, 3, 1);
        for (int call = 2; call < calls; call++) {
            x.fill(0, 0, call << 24);
        }
        x.fill(0, 0, 10 << 24);
        return x;
    }

    private static int hashOf(int... bytes) {
        int g = 1;
        for (int one : bytes) {
            g = 31 * g + one;
        }
        return g;
    }

    private static Changed[] changes() {
        return new Changed[] {
            x -> x.open(1, 1, 1), x -> x.fill(0, 0, 5 << 24), x -> x.filter(1, 2), x -> x.plain(1, 2),
            x -> x.undo(2 * 5)};
    }

    private static void changesUpTo511() {
        int[] due = {
            hashOf(0), hashOf(5, 5, 5, 5, 5, 5), hashOf(10, 10, 10, 0, 0, 0), hashOf(10, 10, 10, 20, 20, 20),
            hashOf(10, 10, 10, 20, 20, 20)};
        Changed[] changes = changes();
        for (int k = 0; k < changes.length; k++) {
            RowFilters x = usedFor(510);
            changes[k].by(x);
            CHECKS.due("call 512, hash after a change of kind " + k, x.hash(), due[k]);
        }
    }

    private static void changesAsCall512() {
        // What it changed can't be asked for: the next answer is free. But it must not throw.
        for (Changed change : changes()) {
            RowFilters x = usedFor(511);
            CHECKS.accepted("call 512, a change", () -> change.by(x));
        }
    }

    private static void setsUpTo512() {
        // Every call changes the object, and answers what the one before it made.
        RowFilters x = Checks.opened(1, 1, 1);
        for (int call = 2; call < MOST_CALLS; call++) {
            CHECKS.due("call " + call + ", set", x.set(0, 0, call & 255), call == 2 ? 0 : call - 1 & 255);
        }
        CHECKS.due("call 512, get", x.get(0, 0), 255);
    }

    private static void refusedCallsUpTo512() {
        RowFilters x = new RowFilters();
        x.set(0, 0, 77);
        for (int call = 2; call < MOST_CALLS; call++) {
            CHECKS.refused("call " + call + ", get(0, 1)", () -> x.get(0, 1));
        }
        CHECKS.due("call 512, get after 510 refused ones", x.get(0, 0), 77);
    }

    private static void largestRowsUpTo512() {
        RowFilters x = Checks.opened(64, 64, 3);
        x.fill(987654, 0x13579bdf, 2468);
        int before = x.hash();
        for (int call = 4; call < MOST_CALLS; call += 2) {
            x.filter(call % 64, 1 + call / 2 % 4);
            x.plain(call % 64, 1 + call / 2 % 4);
        }
        CHECKS.due("call 512, hash of rows told and plain again", x.hash(), before);
    }

    private static void mostBytes() {
        for (int h = 1; h <= 4096; h++) {
            int rows = h;
            int n = 4096 / h;
            RowFilters x = new RowFilters();
            CHECKS.refused("open(" + h + ", " + (n + 1) + ", 1)", () -> x.open(rows, n + 1, 1));
            CHECKS.accepted("open(" + h + ", " + n + ", 1)", () -> x.open(rows, n, 1));
            CHECKS.due("set of the last byte of " + h + " rows of " + n, x.set(h - 1, n - 1, 200), 0);
            CHECKS.due("get of the last byte of " + h + " rows of " + n, x.get(h - 1, n - 1), 200);
        }
    }

    private static void pointSizes() {
        for (int s = 1; s <= 8; s++) {
            RowFilters x = Checks.opened(1, 18, s);
            x.fill(0, 1 << 24, 0);
            x.filter(0, 1);
            for (int i = 0; i < 18; i++) {
                CHECKS.due("byte " + i + " told by 1, points of " + s, x.get(0, i), i < s ? i : s);
            }
        }
    }

    private static void atFirst() {
        // That s is 1 can't be seen: a row of one byte has none before it, and open tells another s.
        RowFilters x = new RowFilters();
        CHECKS.due("get(0, 0) at first", x.get(0, 0), 0);
        CHECKS.due("hash() at first, of one byte", x.hash(), 31);
        CHECKS.takesFromTo("y at first", 0, 0, y -> x.get(y, 0));
        CHECKS.takesFromTo("i at first", 0, 0, i -> x.get(0, i));
        CHECKS.due("best() at first, of one row", x.best(), 5);
        CHECKS.due("set(0, 0, 255) at first", x.set(0, 0, 255), 0);
        for (int f = 0; f < 5; f++) {
            x.filter(0, f);
            x.plain(0, f);
            CHECKS.due("the only byte, told by " + f + " and plain again", x.get(0, 0), 255);
        }
        CHECKS.refused("filter(1, 0) at first", () -> x.filter(1, 0));
        CHECKS.refused("plain(1, 0) at first", () -> x.plain(1, 0));
        CHECKS.due("get(0, 0) of another new object", new RowFilters().get(0, 0), 0);
    }

    private static void openFrom1() {
        for (int other : new int[] {1, 2, 4096}) {
            CHECKS.accepted("open(1, " + other + ", 1)", () -> Checks.opened(1, other, 1));
            CHECKS.accepted("open(" + other + ", 1, 1)", () -> Checks.opened(other, 1, 1));
            for (int low : new int[] {0, -1, -64, -other, Integer.MIN_VALUE}) {
                CHECKS.refused("open(" + low + ", " + other + ", 1)", () -> Checks.opened(low, other, 1));
                CHECKS.refused("open(" + other + ", " + low + ", 1)", () -> Checks.opened(other, low, 1));
            }
        }
        // Both below 1, where the product alone may be right.
        for (int low : new int[] {0, -1, -64, Integer.MIN_VALUE}) {
            CHECKS.refused("open(" + low + ", " + low + ", 1)", () -> Checks.opened(low, low, 1));
        }
        CHECKS.refused("open(-1, -4096, 1)", () -> Checks.opened(-1, -4096, 1));
        CHECKS.refused("open(0, 2147483647, 1)", () -> Checks.opened(0, Integer.MAX_VALUE, 1));
    }

    private static void openUpTo4096() {
        int[][] most = {{1, 4096}, {2, 2048}, {16, 256}, {64, 64}, {63, 65}, {3, 1365}, {45, 91}};
        for (int[] t : most) {
            CHECKS.accepted("open(" + t[0] + ", " + t[1] + ", 1)", () -> Checks.opened(t[0], t[1], 1));
            CHECKS.accepted("open(" + t[1] + ", " + t[0] + ", 1)", () -> Checks.opened(t[1], t[0], 1));
        }
        // From the second line on the product wraps as an int: to 0, 4, 2, 1 and 4096, then below 0.
        int[][] more = {
            {1, 4097}, {17, 241}, {64, 65}, {3, 1366}, {2, 2049}, {4096, 4096}, {1, Integer.MAX_VALUE},
            {65536, 65536}, {4, (1 << 30) + 1}, {3, 1431655766}, {Integer.MAX_VALUE, Integer.MAX_VALUE},
            {4096, (1 << 20) + 1}, {65537, 65535}, {2, Integer.MAX_VALUE}, {46341, 46341}};
        for (int[] t : more) {
            CHECKS.refused("open(" + t[0] + ", " + t[1] + ", 1)", () -> Checks.opened(t[0], t[1], 1));
            CHECKS.refused("open(" + t[1] + ", " + t[0] + ", 1)", () -> Checks.opened(t[1], t[0], 1));
        }
    }

    private static void openPointSizes() {
        int[][] shapes = {{1, 1}, {2, 3}, {64, 64}, {1, 4096}, {4096, 1}};
        for (int[] t : shapes) {
            CHECKS.takesFromTo("s of " + t[0] + " rows of " + t[1], 1, 8, s -> Checks.opened(t[0], t[1], s));
        }
    }

    private static void openMakesSoManyRows() {
        int[][] shapes = {{1, 1}, {1, 2}, {2, 1}, {2, 3}, {1, 4096}, {4096, 1}, {64, 64}, {7, 11}};
        for (int[] first : shapes) {
            for (int[] second : shapes) {
                RowFilters x = Checks.opened(first[0], first[1], 1);
                x.fill(0, 0, -1);
                x.open(second[0], second[1], 8);
                hasZeros(x, second[0], second[1]);
                // What stood in the first shape does not come back with it.
                x.open(first[0], first[1], 1);
                hasZeros(x, first[0], first[1]);
            }
        }
    }

    private static void hasZeros(RowFilters x, int h, int n) {
        String when = "after open(" + h + ", " + n + ", s)";
        CHECKS.hasShape(when, x, h, n);
        for (int k = 0; k < h * n; k += 1 + h * n / 40) {
            CHECKS.due("byte " + k + " " + when, x.get(k / n, k % n), 0);
        }
        CHECKS.due("the last byte " + when, x.get(h - 1, n - 1), 0);
        int power = 1;
        for (int k = 0; k < h * n; k++) {
            power *= 31;
        }
        CHECKS.due("hash() " + when, x.hash(), power);
    }

    private static void setWhatIsThere() {
        int[][] shapes = {{1, 1}, {3, 5}, {5, 3}, {1, 4096}, {4096, 1}, {64, 64}};
        for (int[] t : shapes) {
            CHECKS.takesFromTo("y of " + t[0], 0, t[0] - 1, y -> Checks.opened(t[0], t[1], 1).set(y, 0, 1));
            CHECKS.takesFromTo("i of " + t[1], 0, t[1] - 1, i -> Checks.opened(t[0], t[1], 1).set(0, i, 1));
            CHECKS.takesFromTo("i of " + t[1] + " of the last row", 0, t[1] - 1,
                i -> Checks.opened(t[0], t[1], 1).set(t[0] - 1, i, 1));
        }
        // Row by row, these would be bytes that are there.
        RowFilters x = Checks.opened(3, 5, 1);
        int[][] wrong = {{-1, 5}, {0, 14}, {1, -1}, {1, 9}, {2, -10}, {3, -1}, {1 << 30, 0}, {858993460, -3}};
        for (int[] t : wrong) {
            CHECKS.refused("set(" + t[0] + ", " + t[1] + ", 1)", () -> x.set(t[0], t[1], 1));
        }
        CHECKS.due("hash() after nothing was set", x.hash(), Checks.opened(3, 5, 1).hash());
    }

    private static void setValues() {
        CHECKS.takesFromTo("v", 0, 255, v -> Checks.opened(3, 5, 1).set(1, 2, v));
        RowFilters x = Checks.opened(3, 5, 1);
        CHECKS.refused("set(1, 2, 511)", () -> x.set(1, 2, 511));
        CHECKS.refused("set(1, 2, -128)", () -> x.set(1, 2, -128));
        for (int v : new int[] {255, 0, 128, 127}) {
            x.set(1, 2, v);
            CHECKS.due("get(1, 2) after set of " + v, x.get(1, 2), v);
        }
    }

    private static void setAnswersWhatItWas() {
        RowFilters x = Checks.opened(1, 1, 1);
        int was = 0;
        for (int v : new int[] {255, 255, 0, 0, 128, 127, 1}) {
            CHECKS.due("set(0, 0, " + v + ")", x.set(0, 0, v), was);
            was = v;
        }
        CHECKS.refused("set(0, 0, 256)", () -> x.set(0, 0, 256));
        CHECKS.due("set(0, 0, 2) after a refused one", x.set(0, 0, 2), 1);
    }

    private static void getWhatIsThere() {
        int[][] shapes = {{1, 1}, {3, 5}, {5, 3}, {1, 4096}, {4096, 1}, {64, 64}};
        for (int[] t : shapes) {
            CHECKS.takesFromTo("y of " + t[0], 0, t[0] - 1, y -> Checks.opened(t[0], t[1], 1).get(y, 0));
            CHECKS.takesFromTo("i of " + t[1], 0, t[1] - 1, i -> Checks.opened(t[0], t[1], 1).get(0, i));
            CHECKS.takesFromTo("i of " + t[1] + " of the last row", 0, t[1] - 1,
                i -> Checks.opened(t[0], t[1], 1).get(t[0] - 1, i));
        }
        RowFilters x = Checks.opened(3, 5, 1);
        int[][] wrong = {{-1, 5}, {0, 14}, {1, -1}, {1, 9}, {2, -10}, {3, -1}, {1 << 30, 0}, {858993460, -3}};
        for (int[] t : wrong) {
            CHECKS.refused("get(" + t[0] + ", " + t[1] + ")", () -> x.get(t[0], t[1]));
        }
        // What was there in a larger shape is there no more.
        x.open(2, 2, 1);
        CHECKS.refused("get(2, 0) of two rows", () -> x.get(2, 0));
        CHECKS.refused("get(0, 2) of two bytes", () -> x.get(0, 2));
    }

    private static void fillFromFirstToLast() {
        RowFilters x = Checks.opened(3, 5, 2);
        x.fill(0, 1 << 24, 0);
        for (int k = 0; k < 15; k++) {
            CHECKS.due("byte " + k + " after fill", x.get(k / 5, k % 5), k);
        }
        CHECKS.hasShape("after fill", x, 3, 5);
        // At the last k, 4095, k is 255 and k k is 1 modulo 256.
        RowFilters most = Checks.opened(64, 64, 1);
        most.fill(0, 1 << 24, 0);
        CHECKS.due("the last byte after fill by k", most.get(63, 63), 255);
        most.fill(1 << 24, 0, 0);
        CHECKS.due("the last byte after fill by k k", most.get(63, 63), 1);
        most.fill(0, 0, 3 << 24);
        CHECKS.due("the first byte after fill by 3", most.get(0, 0), 3);
        CHECKS.due("the last byte after fill by 3", most.get(63, 63), 3);
    }

    private static void fillHighestByte() {
        RowFilters x = new RowFilters();
        int[][] cases = {
            {0, 0}, {0x00ffffff, 0}, {0x01000000, 1}, {0x7fffffff, 127}, {0x80000000, 128}, {0x80ffffff, 128},
            {0x81000000, 129}, {0xfeffffff, 254}, {0xff000000, 255}, {-1, 255}};
        for (int[] t : cases) {
            x.fill(0, 0, t[0]);
            CHECKS.due("get(0, 0) after fill(0, 0, " + t[0] + ")", x.get(0, 0), t[1]);
        }
    }

    private static void fillWraps() {
        int most = Integer.MAX_VALUE;
        int least = Integer.MIN_VALUE;
        int[][] numbers = {
            {most, most, most}, {least, least, least}, {least, most, -1}, {most, least, 1}, {-1, -1, -1},
            {123456789, -987654321, 5}, {1 << 20, 1 << 30, 0x7f000000}, {0, 0x7fffffff, 0}, {0x1000000, 0, -1}};
        for (int[] t : numbers) {
            // An object answers 512 calls, so each is asked for a part of its bytes.
            for (int y = 0; y < 16; y++) {
                RowFilters x = Checks.opened(16, 256, 1);
                x.fill(t[0], t[1], t[2]);
                for (int i = 0; i < 256; i++) {
                    long k = 256 * y + i;
                    long value = t[0] * k * k + t[1] * k + t[2];
                    CHECKS.due("byte " + k + " after fill(" + t[0] + ", " + t[1] + ", " + t[2] + ")",
                        x.get(y, i), value >> 24 & 255);
                }
            }
        }
    }

    private static void hashFromFirstToLast() {
        RowFilters x = Checks.opened(2, 2, 1);
        int[] by = {31 * 31 * 31, 31 * 31, 31, 1};
        for (int k = 0; k < 4; k++) {
            x.set(k / 2, k % 2, 255);
            CHECKS.due("hash() with byte " + k + " of 255", x.hash(), 31 * 31 * 31 * 31 + 255 * by[k]);
            x.set(k / 2, k % 2, 0);
        }
        // No more than the bytes that are open: those of a larger shape count no more.
        x.open(1, 1, 1);
        CHECKS.due("hash() of one byte after four", x.hash(), 31);
    }

    private static void hashWraps() {
        int[] powers = {887503681, 1742810335, -1807454463, -196513505};
        for (int n = 6; n < 10; n++) {
            CHECKS.due("hash() of " + n + " zeros", Checks.opened(1, n, 1).hash(), powers[n - 6]);
            CHECKS.due("hash() of " + n + " rows of 0", Checks.opened(n, 1, 1).hash(), powers[n - 6]);
        }
        RowFilters x = Checks.opened(64, 64, 1);
        x.fill(0, 0, -1);
        long g = 1;
        for (int k = 0; k < 4096; k++) {
            g = (31 * g + 255) % (1L << 32);
        }
        CHECKS.due("hash() of 4096 bytes of 255", x.hash(), (int) g);
    }
}
