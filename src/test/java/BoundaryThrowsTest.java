import java.util.ArrayList;
import java.util.List;

/** The sentences of the document's "What is thrown", over the wrong calls of every method. */
public final class BoundaryThrowsTest {
    private static final Checks CHECKS = new Checks();

    private interface Asked {
        void of(RowFilters x);
    }

    private interface AskedWith {
        void of(RowFilters x, int number);
    }

    private record Wrong(String call, Asked asked) {
    }

    public static void main(String[] args) {
        CHECKS.sentence("Terms: IllegalArgumentException: a number out of range",
            BoundaryThrowsTest::everyNumberOutOfRangeThrows);
        CHECKS.sentence("Terms: IllegalArgumentException: a number out of range, and nothing else throws",
            BoundaryThrowsTest::numbersInRangeThrowNothing);
        CHECKS.sentence("Terms: A call that throws changes nothing",
            BoundaryThrowsTest::throwingChangesNothing);
        CHECKS.end();
    }

    /** Three rows of five bytes, points of two. */
    private static RowFilters made() {
        RowFilters x = Checks.opened(3, 5, 2);
        x.fill(5, 0x2a0b0c0d, 17 << 24);
        return x;
    }

    private static List<Wrong> wrongCalls() {
        List<Wrong> all = new ArrayList<>();
        addWrongOpens(all);
        add(all, "set(#, 1, 9)", (x, y) -> x.set(y, 1, 9), Checks.beyond(0, 2));
        add(all, "set(1, #, 9)", (x, i) -> x.set(1, i, 9), Checks.beyond(0, 4));
        add(all, "set(1, 1, #)", (x, v) -> x.set(1, 1, v), Checks.beyond(0, 255));
        add(all, "get(#, 1)", (x, y) -> x.get(y, 1), Checks.beyond(0, 2));
        add(all, "get(1, #)", (x, i) -> x.get(1, i), Checks.beyond(0, 4));
        add(all, "filter(#, 1)", (x, y) -> x.filter(y, 1), Checks.beyond(0, 2));
        add(all, "filter(1, #)", (x, f) -> x.filter(1, f), Checks.beyond(0, 4));
        add(all, "plain(#, 1)", (x, y) -> x.plain(y, 1), Checks.beyond(0, 2));
        add(all, "plain(1, #)", (x, f) -> x.plain(1, f), Checks.beyond(0, 4));
        add(all, "undo(#)", (x, f) -> x.undo(f), Checks.beyond(0, 390624));
        for (boolean high : new boolean[] {false, true}) {
            add(all, "pass(#, 9, 9, " + high + ")", (x, p) -> x.pass(p, 9, 9, high), Checks.beyond(0, 6));
            add(all, "pass(1, #, 9, " + high + ")", (x, w) -> x.pass(1, w, 9, high), Checks.beyond(1, 100000));
            add(all, "pass(1, 9, #, " + high + ")", (x, h) -> x.pass(1, 9, h, high), Checks.beyond(1, 100000));
        }
        add(all, "passOf(#, 3)", (x, px) -> x.passOf(px, 3), Checks.beyond(0, 99999));
        add(all, "passOf(3, #)", (x, py) -> x.passOf(3, py), Checks.beyond(0, 99999));
        return all;
    }

    private static void addWrongOpens(List<Wrong> all) {
        add(all, "open(#, 1, 1)", (x, h) -> x.open(h, 1, 1), Checks.beyond(1, 4096));
        add(all, "open(1, #, 1)", (x, n) -> x.open(1, n, 1), Checks.beyond(1, 4096));
        add(all, "open(2, 4, #)", (x, s) -> x.open(2, 4, s), Checks.beyond(1, 8));
        add(all, "open(64, #, 1), h and n too large together alone", (x, n) -> x.open(64, n, 1), 65, 4096);
        add(all, "open(#, 64, 1), h and n too large together alone", (x, h) -> x.open(h, 64, 1), 65, 4096);
    }

    private static void add(List<Wrong> all, String call, AskedWith asked, int... numbers) {
        for (int number : numbers) {
            all.add(new Wrong(call.replace("#", "" + number), x -> asked.of(x, number)));
        }
    }

    private static void everyNumberOutOfRangeThrows() {
        for (Wrong wrong : wrongCalls()) {
            CHECKS.refused(wrong.call(), () -> wrong.asked().of(made()));
        }
        severalNumbersOutOfRangeThrow();
    }

    private static void severalNumbersOutOfRangeThrow() {
        // Two wrongs that would make a byte that is there: row by row, (-1, 7) is byte 2 and (3, -5) byte 10.
        CHECKS.refused("get(-1, 7)", () -> made().get(-1, 7));
        CHECKS.refused("get(3, -5)", () -> made().get(3, -5));
        CHECKS.refused("set(-1, 7, 0)", () -> made().set(-1, 7, 0));
        CHECKS.refused("set(3, -5, 256)", () -> made().set(3, -5, 256));
        CHECKS.refused("open(-1, -1, 1)", () -> made().open(-1, -1, 1));
        CHECKS.refused("open(0, 0, 0)", () -> made().open(0, 0, 0));
        CHECKS.refused("filter(3, 5)", () -> made().filter(3, 5));
        CHECKS.refused("plain(-1, -1)", () -> made().plain(-1, -1));
        CHECKS.refused("pass(7, 0, 0, true)", () -> made().pass(7, 0, 0, true));
        CHECKS.refused("passOf(-1, 100000)", () -> made().passOf(-1, 100000));
    }

    private static void numbersInRangeThrowNothing() {
        CHECKS.accepted("open(1, 1, 1)", () -> made().open(1, 1, 1));
        CHECKS.accepted("open(64, 64, 8)", () -> made().open(64, 64, 8));
        CHECKS.accepted("set(0, 0, 0)", () -> made().set(0, 0, 0));
        CHECKS.accepted("set(2, 4, 255)", () -> made().set(2, 4, 255));
        CHECKS.accepted("get(2, 4)", () -> made().get(2, 4));
        for (int far : new int[] {Integer.MIN_VALUE, -1, 0, 1, Integer.MAX_VALUE}) {
            CHECKS.accepted("fill with " + far, () -> made().fill(far, far, far));
        }
        for (int y = 0; y < 3; y++) {
            for (int f = 0; f < 5; f++) {
                int row = y;
                int by = f;
                CHECKS.accepted("filter(" + row + ", " + by + ")", () -> made().filter(row, by));
                CHECKS.accepted("plain(" + row + ", " + by + ")", () -> made().plain(row, by));
            }
        }
        CHECKS.accepted("best()", () -> made().best());
        CHECKS.accepted("undo(390624)", () -> made().undo(390624));
        CHECKS.accepted("hash()", () -> made().hash());
        CHECKS.accepted("pass(6, 100000, 100000, true)", () -> made().pass(6, 100000, 100000, true));
        CHECKS.accepted("passOf(99999, 99999)", () -> made().passOf(99999, 99999));
    }

    private static void throwingChangesNothing() {
        for (Wrong wrong : wrongCalls()) {
            RowFilters asked = made();
            CHECKS.refused(wrong.call(), () -> wrong.asked().of(asked));
            answersAsMade("after " + wrong.call(), asked);
        }
    }

    private static void answersAsMade(String when, RowFilters asked) {
        RowFilters other = made();
        CHECKS.hasShape(when, asked, 3, 5);
        rowsAreThoseOf(when, asked, other);
        // Filter 1 goes by the byte a point before, so that it shows the size of a point.
        for (int y = 0; y < 3; y++) {
            asked.filter(y, 1);
            other.filter(y, 1);
        }
        rowsAreThoseOf(when + " and filter 1", asked, other);
        CHECKS.due("best() " + when + " and filter 1", asked.best(), other.best());
    }

    private static void rowsAreThoseOf(String when, RowFilters asked, RowFilters other) {
        for (int k = 0; k < 15; k++) {
            CHECKS.due("byte " + k + " " + when, asked.get(k / 5, k % 5), other.get(k / 5, k % 5));
        }
        CHECKS.due("hash() " + when, asked.hash(), other.hash());
    }
}
