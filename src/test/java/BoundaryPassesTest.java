/** The sentences of promises 11 and 12 that name a boundary case, a test for each. */
public final class BoundaryPassesTest {
    private static final Checks CHECKS = new Checks();

    private static final int[] FROM_X = {0, 4, 0, 2, 0, 1, 0};
    private static final int[] FROM_Y = {0, 0, 4, 0, 2, 0, 1};

    public static void main(String[] args) {
        CHECKS.sentence("Promise 11: w, h 1 .. 100000", BoundaryPassesTest::sidesOfAnImage);
        CHECKS.sentence("Promise 11: PASS p, 0 .. 6", BoundaryPassesTest::passesThereAre);
        CHECKS.sentence("Promise 11: 0 of both if there is none in it", BoundaryPassesTest::emptyPasses);
        CHECKS.sentence("Promise 12: POINT x, y, 0 .. 99999 each", BoundaryPassesTest::pointsThereAre);
        CHECKS.end();
    }

    private static void sidesOfAnImage() {
        for (int p = 0; p < 7; p++) {
            for (boolean high : new boolean[] {false, true}) {
                // Also where the pass is empty by its other side, which must not hide the wrong one.
                for (int other : new int[] {1, 100000}) {
                    int pass = p;
                    CHECKS.takesFromTo("w", 1, 100000, w -> new RowFilters().pass(pass, w, other, high));
                    CHECKS.takesFromTo("h", 1, 100000, h -> new RowFilters().pass(pass, other, h, high));
                }
            }
        }
        largestSides();
        smallestSides();
    }

    private static void largestSides() {
        RowFilters x = new RowFilters();
        int[] wide = {12500, 12500, 25000, 25000, 50000, 50000, 100000};
        int[] high = {12500, 12500, 12500, 25000, 25000, 50000, 50000};
        // One less takes a point only from the passes that end at the last one.
        int[] wideOfOneLess = {12500, 12500, 25000, 25000, 50000, 49999, 99999};
        int[] highOfOneLess = {12500, 12500, 12500, 25000, 25000, 50000, 49999};
        for (int p = 0; p < 7; p++) {
            CHECKS.due("the width of pass " + p + " of 100000", x.pass(p, 100000, 100000, false), wide[p]);
            CHECKS.due("the height of pass " + p + " of 100000", x.pass(p, 100000, 100000, true), high[p]);
            CHECKS.due("the width of pass " + p + " of 99999", x.pass(p, 99999, 99999, false), wideOfOneLess[p]);
            CHECKS.due("the height of pass " + p + " of 99999", x.pass(p, 99999, 99999, true), highOfOneLess[p]);
        }
    }

    private static void smallestSides() {
        RowFilters x = new RowFilters();
        for (int p = 0; p < 7; p++) {
            CHECKS.due("the width of pass " + p + " of one point", x.pass(p, 1, 1, false), p == 0 ? 1 : 0);
            CHECKS.due("the height of pass " + p + " of one point", x.pass(p, 1, 1, true), p == 0 ? 1 : 0);
        }
    }

    private static void passesThereAre() {
        for (boolean high : new boolean[] {false, true}) {
            CHECKS.takesFromTo("p", 0, 6, p -> new RowFilters().pass(p, 8, 8, high));
            // Passes 1 to 6 of one point are empty; 7 is none at all.
            CHECKS.takesFromTo("p of one point", 0, 6, p -> new RowFilters().pass(p, 1, 1, high));
        }
    }

    private static void emptyPasses() {
        RowFilters x = new RowFilters();
        for (int p = 0; p < 7; p++) {
            for (int much : new int[] {8, 100000}) {
                bothAre0("pass " + p + ", too narrow", x, p, FROM_X[p], much);
                bothAre0("pass " + p + ", too low", x, p, much, FROM_Y[p]);
            }
            CHECKS.due("the width of pass " + p + " with one point", x.pass(p, FROM_X[p] + 1, FROM_Y[p] + 1, false), 1);
            CHECKS.due("the height of pass " + p + " with one point", x.pass(p, FROM_X[p] + 1, FROM_Y[p] + 1, true), 1);
        }
    }

    private static void bothAre0(String when, RowFilters x, int p, int w, int h) {
        // A pass that starts at 0 is never too short on that side.
        if (w == 0 || h == 0) {
            return;
        }
        CHECKS.due("the width of " + when, x.pass(p, w, h, false), 0);
        CHECKS.due("the height of " + when, x.pass(p, w, h, true), 0);
    }

    private static void pointsThereAre() {
        for (int other : new int[] {0, 1, 2, 4, 99999}) {
            CHECKS.takesFromTo("x", 0, 99999, px -> new RowFilters().passOf(px, other));
            CHECKS.takesFromTo("y", 0, 99999, py -> new RowFilters().passOf(other, py));
        }
        RowFilters x = new RowFilters();
        CHECKS.due("passOf(0, 0)", x.passOf(0, 0), 0);
        CHECKS.due("passOf(99999, 0)", x.passOf(99999, 0), 5);
        CHECKS.due("passOf(0, 99999)", x.passOf(0, 99999), 6);
        CHECKS.due("passOf(99999, 99999)", x.passOf(99999, 99999), 6);
        CHECKS.due("passOf(99992, 99992)", x.passOf(99992, 99992), 0);
        CHECKS.due("passOf(99996, 99992)", x.passOf(99996, 99992), 1);
        CHECKS.due("passOf(99992, 99996)", x.passOf(99992, 99996), 2);
        CHECKS.due("passOf(99998, 99996)", x.passOf(99998, 99996), 3);
        CHECKS.due("passOf(99996, 99998)", x.passOf(99996, 99998), 4);
    }
}
