import java.util.Arrays;

/** The rows of PNG images: five filters both ways, chosen row by row, and rows in seven passes. */
public final class RowFilters {
    private static final int MOST_BYTES = 4096;
    private static final int MOST_POINT_SIZE = 8;
    private static final int FILTERS = 5;
    private static final int UNDO_ROWS = 8;
    private static final int LAST_UNDO = 390624;
    private static final int LAST_PASS = 6;
    private static final int MOST_SIDE = 100000;

    private static final int[] PASS_FROM_X = {0, 4, 0, 2, 0, 1, 0};
    private static final int[] PASS_FROM_Y = {0, 0, 4, 0, 2, 0, 1};
    private static final int[] PASS_STEP_X = {8, 8, 4, 4, 2, 2, 1};
    private static final int[] PASS_STEP_Y = {8, 8, 8, 4, 4, 2, 2};

    // One array for every shape, so that opening again makes nothing new.
    private final int[] bytes;
    private int rowCount;
    private int rowLength;
    private int pointSize;

    public RowFilters() {
        bytes = new int[MOST_BYTES];
        rowCount = 1;
        rowLength = 1;
        pointSize = 1;
    }

    public void open(int h, int n, int s) throws IllegalArgumentException {
        requireWithin(h, 1, MOST_BYTES);
        requireWithin(n, 1, MOST_BYTES);
        // With each bounded first, the product cannot wrap.
        requireWithin(h * n, 1, MOST_BYTES);
        requireWithin(s, 1, MOST_POINT_SIZE);
        rowCount = h;
        rowLength = n;
        pointSize = s;
        Arrays.fill(bytes, 0);
    }

    public int set(int y, int i, int v) throws IllegalArgumentException {
        requireByte(y, i);
        requireWithin(v, 0, 255);
        int k = y * rowLength + i;
        int old = bytes[k];
        bytes[k] = v;
        return old;
    }

    public int get(int y, int i) throws IllegalArgumentException {
        requireByte(y, i);
        return bytes[y * rowLength + i];
    }

    public void fill(int a, int b, int c) {
        int count = rowCount * rowLength;
        for (int k = 0; k < count; k++) {
            bytes[k] = (a * k * k + b * k + c) >>> 24;
        }
    }

    public void filter(int y, int f) throws IllegalArgumentException {
        requireRow(y);
        requireFilter(f);
        tellRow(y, f);
    }

    public void plain(int y, int f) throws IllegalArgumentException {
        requireRow(y);
        requireFilter(f);
        restoreRow(y, f);
    }

    public int best() {
        int answer = 0;
        int weight = 1;
        // From the last row up, so that the row above is still as it was; the
        // weight, a power of 5, puts each filter where 5 v + filter from the
        // first row down would have put it.
        for (int y = rowCount - 1; y >= 0; y--) {
            int f = leastFilter(y);
            tellRow(y, f);
            answer += f * weight;
            weight *= 5;
        }
        return answer + weight;
    }

    public void undo(int f) throws IllegalArgumentException {
        requireWithin(f, 0, LAST_UNDO);
        // Rows after the first eight are told by filter 0: they are as they are.
        int rows = Math.min(rowCount, UNDO_ROWS);
        int rest = f;
        for (int y = 0; y < rows; y++) {
            restoreRow(y, rest % FILTERS);
            rest /= FILTERS;
        }
    }

    public int hash() {
        int count = rowCount * rowLength;
        int g = 1;
        for (int k = 0; k < count; k++) {
            g = 31 * g + bytes[k];
        }
        return g;
    }

    public int pass(int p, int w, int h, boolean high) throws IllegalArgumentException {
        requireWithin(p, 0, LAST_PASS);
        requireWithin(w, 1, MOST_SIDE);
        requireWithin(h, 1, MOST_SIDE);
        int pointsWide = pointsAlong(w, PASS_FROM_X[p], PASS_STEP_X[p]);
        int pointsHigh = pointsAlong(h, PASS_FROM_Y[p], PASS_STEP_Y[p]);
        if (pointsWide == 0 || pointsHigh == 0) {
            return 0;
        }
        return high ? pointsHigh : pointsWide;
    }

    public int passOf(int x, int y) throws IllegalArgumentException {
        requireWithin(x, 0, MOST_SIDE - 1);
        requireWithin(y, 0, MOST_SIDE - 1);
        for (int p = 0; p < LAST_PASS; p++) {
            if (x % PASS_STEP_X[p] == PASS_FROM_X[p] && y % PASS_STEP_Y[p] == PASS_FROM_Y[p]) {
                return p;
            }
        }
        // The passes share out all points, so the last has what the others leave.
        return LAST_PASS;
    }

    private void tellRow(int y, int f) {
        // From the end back, so that the byte a point before is still as it was.
        for (int i = rowLength - 1; i >= 0; i--) {
            int k = y * rowLength + i;
            bytes[k] = (bytes[k] - foretold(y, i, f)) & 255;
        }
    }

    private void restoreRow(int y, int f) {
        // From the start on, so that the byte a point before is restored already.
        for (int i = 0; i < rowLength; i++) {
            int k = y * rowLength + i;
            bytes[k] = (bytes[k] + foretold(y, i, f)) & 255;
        }
    }

    private int leastFilter(int y) {
        int least = 0;
        int leastSum = sumTold(y, 0);
        for (int f = 1; f < FILTERS; f++) {
            int sum = sumTold(y, f);
            if (sum < leastSum) {
                least = f;
                leastSum = sum;
            }
        }
        return least;
    }

    private int sumTold(int y, int f) {
        int sum = 0;
        for (int i = 0; i < rowLength; i++) {
            int told = (byte) (byteOrZero(y, i) - foretold(y, i, f));
            sum += Math.abs(told);
        }
        return sum;
    }

    /** What filter f takes from byte i of row y. */
    private int foretold(int y, int i, int f) {
        int a = byteOrZero(y, i - pointSize);
        int b = byteOrZero(y - 1, i);
        switch (f) {
            case 1:
                return a;
            case 2:
                return b;
            case 3:
                return (a + b) / 2;
            case 4:
                return nearest(a, b, byteOrZero(y - 1, i - pointSize));
            default:
                return 0;
        }
    }

    private static int nearest(int a, int b, int c) {
        int aim = a + b - c;
        int farA = Math.abs(aim - a);
        int farB = Math.abs(aim - b);
        int farC = Math.abs(aim - c);
        if (farA <= farB && farA <= farC) {
            return a;
        }
        return farB <= farC ? b : c;
    }

    private int byteOrZero(int y, int i) {
        return y < 0 || i < 0 ? 0 : bytes[y * rowLength + i];
    }

    private static int pointsAlong(int side, int from, int step) {
        // Every pass starts within its first step, so this is never below 0.
        return (side - from + step - 1) / step;
    }

    private void requireByte(int y, int i) {
        requireRow(y);
        requireWithin(i, 0, rowLength - 1);
    }

    private void requireRow(int y) {
        requireWithin(y, 0, rowCount - 1);
    }

    private static void requireFilter(int f) {
        requireWithin(f, 0, FILTERS - 1);
    }

    private static void requireWithin(int number, int low, int high) {
        if (number < low || number > high) {
            throw new IllegalArgumentException("a number out of range");
        }
    }
}
