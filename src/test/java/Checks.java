/** Counts the answers that are not as due; each test ends through {@link #end}. */
final class Checks {
    interface Call {
        void run();
    }

    private int wrong = 0;

    void due(String call, long got, long want) {
        if (got != want) {
            wrong++;
            System.out.println(call + " answered " + got + ", due is " + want);
        }
    }

    void refused(String call, Call made) {
        try {
            made.run();
        } catch (IllegalArgumentException e) {
            if (e.getClass() != IllegalArgumentException.class) {
                tell(call + " threw " + e.getClass().getName());
            }
            return;
        } catch (RuntimeException e) {
            tell(call + " threw " + e.getClass().getName());
            return;
        }
        tell(call + " threw nothing, due is IllegalArgumentException");
    }

    /** As refused, and the rows are afterwards as they were before. */
    void refusedUnchanged(String call, RowFilters x, int h, int n, Call made) {
        int before = x.hash();
        refused(call, made);
        due("hash() after " + call, x.hash(), before);
        hasShape("after " + call, x, h, n);
    }

    void hasShape(String when, RowFilters x, int h, int n) {
        try {
            x.get(h - 1, n - 1);
        } catch (IllegalArgumentException e) {
            tell("the last byte can't be got " + when);
        }
        refused("get(h, 0) " + when, () -> x.get(h, 0));
        refused("get(0, n) " + when, () -> x.get(0, n));
    }

    void rowDue(String when, RowFilters x, int y, int... want) {
        for (int i = 0; i < want.length; i++) {
            due("get(" + y + ", " + i + ") " + when, x.get(y, i), want[i]);
        }
    }

    static void setRow(RowFilters x, int y, int... row) {
        for (int i = 0; i < row.length; i++) {
            x.set(y, i, row[i]);
        }
    }

    void tell(String fault) {
        wrong++;
        System.out.println(fault);
    }

    void end() {
        System.out.println(wrong == 0 ? "all answers are as due" : wrong + " answers are not as due");
        if (wrong != 0) {
            System.exit(1);
        }
    }
}
