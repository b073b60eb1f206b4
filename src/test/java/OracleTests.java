import java.util.ArrayList;
import java.util.List;

/** Long runs of mixed calls, against a plain model that reckons the document's words another way. */
public final class OracleTests {
    private static final int MOST_CALLS = 512;
    private static long seed = 1;
    private static int checked = 0;
    private static int wrong = 0;

    /** The document, without care for the cost: speeds are lowered one broken bound at a time. */
    private static final class Model {
        private final List<int[]> moves = new ArrayList<>();
        private int[] first = {1, 0, 0};
        private int[] last = {1, 0, 0};
        private long a = 100;

        boolean isStep(int[] s) {
            for (int number : s) {
                if (number < -1 || number > 1) {
                    return false;
                }
            }
            return s[0] != 0 || s[1] != 0 || s[2] != 0;
        }

        boolean first(int[] s) {
            first = isStep(s) ? s : first;
            return isStep(s);
        }

        boolean last(int[] s) {
            last = isStep(s) ? s : last;
            return isStep(s);
        }

        int move(int n, int feed) {
            if (n < 1 || n > 100000 || feed < 1 || feed > 99999 || moves.size() == 2000) {
                return -1;
            }
            moves.add(new int[] {n, feed, first[0], first[1], first[2], last[0], last[1], last[2]});
            return moves.size();
        }

        int back(int n) {
            if (n < 0 || n > moves.size()) {
                return -1;
            }
            for (int i = 0; i < n; i++) {
                moves.remove(moves.size() - 1);
            }
            return moves.size();
        }

        boolean acceleration(int value) {
            boolean good = value >= 1 && value <= 10000;
            a = good ? value : a;
            return good;
        }

        long limit(int k) {
            if (k < 0 || k > moves.size()) {
                return -1;
            }
            if (k == 0 || k == moves.size()) {
                return 0;
            }
            int[] one = moves.get(k - 1);
            int[] next = moves.get(k);
            long products = 0;
            long squaresOne = 0;
            long squaresNext = 0;
            for (int axis = 0; axis < 3; axis++) {
                products += one[5 + axis] * next[2 + axis];
                squaresOne += one[5 + axis] * one[5 + axis];
                squaresNext += next[2 + axis] * next[2 + axis];
            }
            return Math.min(one[1], next[1]) * Math.max(0, products) / Math.max(squaresOne, squaresNext);
        }

        long[] speeds() {
            long[] v = new long[moves.size() + 1];
            for (int k = 0; k < v.length; k++) {
                v[k] = limit(k);
            }
            boolean lowered = true;
            while (lowered) {
                lowered = false;
                for (int k = 0; k < moves.size(); k++) {
                    long reach = 2 * a * moves.get(k)[0];
                    lowered |= lower(v, k, k + 1, reach) | lower(v, k + 1, k, reach);
                }
            }
            return v;
        }

        private static boolean lower(long[] v, int at, int from, long reach) {
            long square = v[from] * v[from] + reach;
            if (v[at] * v[at] <= square) {
                return false;
            }
            v[at] = (long) Math.sqrt((double) square) + 1;
            while (v[at] * v[at] > square) {
                v[at]--;
            }
            return true;
        }
    }

    private static int next(int bound) {
        seed = seed * 6364136223846793005L + 1442695040888963407L;
        return (int) ((seed >>> 33) % bound);
    }

    private static int within(int least, int most) {
        return least + next(most - least + 1);
    }

    /** Small, middling and great values all come often, and wrong ones now and then. */
    private static int spread(int most) {
        switch (next(12)) {
            case 0: return within(-1, 1);
            case 1: return within(most - 1, most + 1);
            case 2: return next(2) == 0 ? Integer.MIN_VALUE : Integer.MAX_VALUE;
            case 3: case 4: case 5: return within(1, 20);
            case 6: case 7: case 8: return within(1, Math.min(most, 1000));
            default: return within(1, most);
        }
    }

    private static int[] step(int kind) {
        if (kind == 0) {
            return new int[] {within(-2, 2), within(-2, 2), within(-2, 2)};
        }
        return kind == 1
                ? new int[] {within(-1, 1), within(-1, 1), within(-1, 1)}
                : new int[] {1, within(0, 1), within(0, 1)};
    }

    private static void due(int run, String call, long got, long want) {
        checked++;
        if (got != want) {
            wrong++;
            System.out.println("run " + run + ": " + call + " answered " + got + ", due is " + want);
        }
    }

    private static long one(boolean answer) {
        return answer ? 1 : 0;
    }

    private static void change(int run, SpeedRows rows, Model model) {
        int kind = next(20);
        if (kind < 4) {
            int[] s = step(next(6));
            due(run, "first", one(rows.first(s[0], s[1], s[2])), one(model.first(s)));
        } else if (kind < 8) {
            int[] s = step(next(6));
            due(run, "last", one(rows.last(s[0], s[1], s[2])), one(model.last(s)));
        } else if (kind < 18) {
            int n = spread(100000);
            int feed = spread(99999);
            due(run, "move(" + n + ", " + feed + ")", rows.move(n, feed), model.move(n, feed));
        } else if (kind < 19) {
            int n = next(8) == 0 ? spread(2000) : within(-1, 4);
            due(run, "back(" + n + ")", rows.back(n), model.back(n));
        } else {
            int a = spread(10000);
            due(run, "acceleration(" + a + ")", one(rows.acceleration(a)), one(model.acceleration(a)));
        }
    }

    private static void ask(int run, SpeedRows rows, Model model) {
        long[] v = model.speeds();
        int k = next(20) == 0 ? spread(2000) : within(-1, v.length);
        long total = 0;
        long slower = 0;
        for (int corner = 0; corner < v.length; corner++) {
            total += v[corner];
            slower += one(v[corner] < model.limit(corner));
        }
        switch (next(4)) {
            case 0:
                due(run, "limit(" + k + ")", rows.limit(k), model.limit(k));
                break;
            case 1:
                due(run, "speed(" + k + ")", rows.speed(k), k < 0 || k >= v.length ? -1 : v[k]);
                break;
            case 2:
                due(run, "sum()", rows.sum(), total);
                break;
            default:
                due(run, "below()", rows.below(), slower);
        }
    }

    private static void mixedRun(int run, int asksInTen) {
        SpeedRows rows = new SpeedRows();
        Model model = new Model();
        for (int call = 0; call < MOST_CALLS; call++) {
            if (next(10) < asksInTen) {
                ask(run, rows, model);
            } else {
                change(run, rows, model);
            }
        }
    }

    private static boolean allowed(int[] v, int[] n, int a) {
        for (int k = 0; k < n.length; k++) {
            int difference = v[k] * v[k] - v[k + 1] * v[k + 1];
            if (Math.abs(difference) > 2 * a * n[k]) {
                return false;
            }
        }
        return true;
    }

    /** All rows of whole numbers up to the limits are tried: the speeds are the greatest at every corner. */
    private static void everyRow(int run) {
        SpeedRows rows = new SpeedRows();
        int a = within(1, 3);
        due(run, "acceleration", one(rows.acceleration(a)), 1);
        int[] n = new int[4];
        for (int k = 0; k < n.length; k++) {
            n[k] = within(1, 9);
            due(run, "move", rows.move(n[k], within(1, 14)), k + 1);
        }
        int[] most = {0, rows.limit(1), rows.limit(2), rows.limit(3), 0};
        int[] greatest = new int[5];
        for (int p = 0; p <= most[1]; p++) {
            for (int q = 0; q <= most[2]; q++) {
                for (int r = 0; r <= most[3]; r++) {
                    int[] v = {0, p, q, r, 0};
                    for (int k = 0; k < v.length && allowed(v, n, a); k++) {
                        greatest[k] = Math.max(greatest[k], v[k]);
                    }
                }
            }
        }
        for (int k = 0; k < greatest.length; k++) {
            due(run, "speed(" + k + ") of every row", rows.speed(k), greatest[k]);
        }
        due(run, "the greatest are allowed together", one(allowed(greatest, n, a)), 1);
    }

    public static void main(String[] args) {
        for (int run = 1; run <= 300; run++) {
            mixedRun(run, 1 + run % 6);
        }
        for (int run = 1; run <= 300; run++) {
            everyRow(run);
        }
        System.out.println(checked + " answers, " + wrong + " not as due");
        if (wrong != 0) {
            System.exit(1);
        }
    }
}
