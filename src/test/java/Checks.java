/** Counts the answers that are not as due; each test ends through {@link #end}. */
final class Checks {
    interface Call {
        void run();
    }

    interface CallWith {
        void run(int number);
    }

    private int wrong = 0;

    /** Runs the test of one sentence of the document, and names the sentence if it does not hold. */
    void sentence(String words, Call test) {
        int before = wrong;
        try {
            test.run();
        } catch (RuntimeException e) {
            tell("threw " + e);
        }
        if (wrong != before) {
            System.out.println("does not hold: " + words);
        }
    }

    void due(String call, long got, long want) {
        if (got != want) {
            tell(call + " answered " + got + ", due is " + want);
        }
    }

    void refused(String call, Call made) {
        try {
            made.run();
        } catch (RuntimeException e) {
            if (e.getClass() != IllegalArgumentException.class) {
                tell(call + " threw " + e.getClass().getName() + ", due is IllegalArgumentException");
            }
            return;
        }
        tell(call + " threw nothing, due is IllegalArgumentException");
    }

    void accepted(String call, Call made) {
        try {
            made.run();
        } catch (RuntimeException e) {
            tell(call + " threw " + e.getClass().getName() + ", due is nothing");
        }
    }

    /** The call takes the numbers low and high and refuses those beyond: the next ones and the farthest. */
    void takesFromTo(String number, int low, int high, CallWith call) {
        accepted(number + " " + low, () -> call.run(low));
        accepted(number + " " + high, () -> call.run(high));
        for (int far : beyond(low, high)) {
            refused(number + " " + far, () -> call.run(far));
        }
    }

    static int[] beyond(int low, int high) {
        return new int[] {Integer.MIN_VALUE, low - 1, high + 1, Integer.MAX_VALUE};
    }

    void hasShape(String when, RowFilters x, int h, int n) {
        accepted("get(h - 1, n - 1) " + when, () -> x.get(h - 1, n - 1));
        refused("get(h, 0) " + when, () -> x.get(h, 0));
        refused("get(0, n) " + when, () -> x.get(0, n));
    }

    void rowDue(String when, RowFilters x, int y, int... want) {
        for (int i = 0; i < want.length; i++) {
            due("get(" + y + ", " + i + ") " + when, x.get(y, i), want[i]);
        }
    }

    static void setRow(RowFilters x, int y, int... row) {
        for (int i = 0; i < row.length; i++) {
            x.set(y, i, row[i]);
        }
    }

    static RowFilters opened(int h, int n, int s) {
        RowFilters x = new RowFilters();
        x.open(h, n, s);
        return x;
    }

    /** Two rows, with points of one byte. */
    static RowFilters twoRows(int[] above, int[] row) {
        RowFilters x = opened(2, row.length, 1);
        setRow(x, 0, above);
        setRow(x, 1, row);
        return x;
    }

    void tell(String fault) {
        wrong++;
        System.out.println(fault);
    }

    void end() {
        System.out.println(wrong == 0 ? "all answers are as due" : wrong + " answers are not as due");
        if (wrong != 0) {
            System.exit(1);
        }
    }
}
