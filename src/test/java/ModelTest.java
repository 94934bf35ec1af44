/** Long runs of calls against a second, plain reading of the document that keeps rows apart and copies them. */
public final class ModelTest {
    private static final Checks CHECKS = new Checks();
    private static final int RUNS = 300;
    private static final int CALLS = 512;

    private static final class Model {
        int[][] rows = new int[1][1];
        int s = 1;

        int taken(int[] row, int[] above, int i, int f) {
            int a = i >= s ? row[i - s] : 0;
            int b = above[i];
            int c = i >= s ? above[i - s] : 0;
            int[] by = {0, a, b, (a + b) >> 1, near(a, b, c)};
            return by[f];
        }

        static int near(int a, int b, int c) {
            int p = a + b - c;
            int least = Math.min(Math.abs(p - a), Math.min(Math.abs(p - b), Math.abs(p - c)));
            return Math.abs(p - a) == least ? a : Math.abs(p - b) == least ? b : c;
        }

        int[] above(int[][] from, int y) {
            return y > 0 ? from[y - 1] : new int[from[0].length];
        }

        int[] told(int[] row, int[] above, int f) {
            int[] out = new int[row.length];
            for (int i = 0; i < row.length; i++) {
                out[i] = Math.floorMod(row[i] - taken(row, above, i, f), 256);
            }
            return out;
        }

        int[] restored(int[] row, int[] above, int f) {
            int[] out = new int[row.length];
            for (int i = 0; i < row.length; i++) {
                out[i] = Math.floorMod(row[i] + taken(out, above, i, f), 256);
            }
            return out;
        }

        int best() {
            int[][] out = new int[rows.length][];
            int v = 1;
            for (int y = 0; y < rows.length; y++) {
                int least = Integer.MAX_VALUE;
                int chosen = -1;
                for (int f = 0; f < 5; f++) {
                    int[] row = told(rows[y], above(rows, y), f);
                    int sum = 0;
                    for (int told : row) {
                        sum += told < 128 ? told : 256 - told;
                    }
                    if (sum < least) {
                        least = sum;
                        chosen = f;
                        out[y] = row;
                    }
                }
                v = 5 * v + chosen;
            }
            rows = out;
            return v;
        }

        void undo(int f) {
            int power = 1;
            for (int y = 0; y < rows.length; y++) {
                rows[y] = restored(rows[y], above(rows, y), y < 8 ? f / power % 5 : 0);
                power = y < 8 ? power * 5 : power;
            }
        }

        void fill(int a, int b, int c) {
            int k = 0;
            for (int[] row : rows) {
                for (int i = 0; i < row.length; i++, k++) {
                    row[i] = ((a * k * k + b * k + c) >> 24) & 255;
                }
            }
        }

        int hash() {
            int g = 1;
            for (int[] row : rows) {
                for (int one : row) {
                    g = 31 * g + one;
                }
            }
            return g;
        }
    }

    // A written sequence of numbers, so that every run of the tests is the same.
    private static long state = 88172645463325252L;

    private static int next(int bound) {
        return (int) Long.remainderUnsigned(nextLong(), bound);
    }

    private static long nextLong() {
        state ^= state << 13;
        state ^= state >>> 7;
        state ^= state << 17;
        return state;
    }

    public static void main(String[] args) {
        for (int run = 0; run < RUNS; run++) {
            RowFilters x = new RowFilters();
            Model model = new Model();
            for (int call = 0; call < CALLS / 2; call++) {
                step("run " + run + ", call " + call + ": ", x, model);
                CHECKS.due("run " + run + ", call " + call + ": hash()", x.hash(), model.hash());
            }
        }
        CHECKS.end();
    }

    private static void step(String when, RowFilters x, Model model) {
        int h = model.rows.length;
        int n = model.rows[0].length;
        // One beyond each side now and then, which is to be refused.
        int y = next(20) == 0 ? next(h + 2) - 1 : next(h);
        int i = next(20) == 0 ? next(n + 2) - 1 : next(n);
        int f = next(20) == 0 ? next(7) - 1 : next(5);
        boolean rowThere = y >= 0 && y < h;
        boolean filterThere = f >= 0 && f < 5;
        switch (next(12)) {
            case 0:
                if (next(4) == 0) {
                    stepOpen(when, x, model);
                }
                break;
            case 1:
            case 2:
                stepSet(when, x, model, y, i);
                break;
            case 3:
                if (rowThere && i >= 0 && i < n) {
                    CHECKS.due(when + "get", x.get(y, i), model.rows[y][i]);
                } else {
                    CHECKS.refused(when + "get", () -> x.get(y, i));
                }
                break;
            case 4:
                stepFill(x, model);
                break;
            case 5:
            case 6:
                if (rowThere && filterThere) {
                    x.filter(y, f);
                    model.rows[y] = model.told(model.rows[y], model.above(model.rows, y), f);
                } else {
                    CHECKS.refused(when + "filter", () -> x.filter(y, f));
                }
                break;
            case 7:
            case 8:
                if (rowThere && filterThere) {
                    x.plain(y, f);
                    model.rows[y] = model.restored(model.rows[y], model.above(model.rows, y), f);
                } else {
                    CHECKS.refused(when + "plain", () -> x.plain(y, f));
                }
                break;
            case 9:
                CHECKS.due(when + "best()", x.best(), model.best());
                break;
            default:
                int digits = next(390625);
                x.undo(digits);
                model.undo(digits);
                break;
        }
    }

    private static void stepOpen(String when, RowFilters x, Model model) {
        int h = 1 + next(next(3) == 0 ? 70 : 12);
        int n = 1 + next(next(3) == 0 ? 70 : 12);
        int s = next(20) == 0 ? next(10) : 1 + next(8);
        if (h * n <= 4096 && s >= 1 && s <= 8) {
            x.open(h, n, s);
            model.rows = new int[h][n];
            model.s = s;
        } else {
            CHECKS.refused(when + "open", () -> x.open(h, n, s));
        }
    }

    private static void stepSet(String when, RowFilters x, Model model, int y, int i) {
        int v = next(20) == 0 ? next(258) - 1 : next(256);
        boolean there = y >= 0 && y < model.rows.length && i >= 0 && i < model.rows[0].length;
        if (there && v >= 0 && v < 256) {
            CHECKS.due(when + "set", x.set(y, i, v), model.rows[y][i]);
            model.rows[y][i] = v;
        } else {
            CHECKS.refused(when + "set", () -> x.set(y, i, v));
        }
    }

    private static void stepFill(RowFilters x, Model model) {
        int a = (int) nextLong() >> next(32);
        int b = (int) nextLong() >> next(32);
        int c = (int) nextLong();
        x.fill(a, b, c);
        model.fill(a, b, c);
    }
}
