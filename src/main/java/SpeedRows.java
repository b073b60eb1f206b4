/** Speeds at the corners of a path: the greatest that limits and the acceleration allow. */
public final class SpeedRows {
    private static final int NONE = -1;
    private static final int MOST_MOVES = 2000;
    private static final int MOST_TICKS = 100000;
    private static final int MOST_FEED = 99999;
    private static final int MOST_ACCELERATION = 10000;
    private static final int ACCELERATION_AT_FIRST = 100;
    // 2^17 is above MOST_FEED, so no limit and no speed has a bit above this one.
    private static final int HIGHEST_SPEED_BIT = 16;

    private final int[] ticks;
    private final int[] feeds;
    private final int[] lastSteps;
    // Row k holds the limit of corner k while a move follows it: taking moves away leaves it true.
    private final int[] turnLimits;
    private final int[] speeds;
    private int moves;
    private int nextFirst;
    private int nextLast;
    private int rate;
    // Many questions come between two changes of the path: the speeds are reckoned once for them all.
    private boolean speedsStand;

    public SpeedRows() {
        ticks = new int[MOST_MOVES];
        feeds = new int[MOST_MOVES];
        lastSteps = new int[MOST_MOVES];
        turnLimits = new int[MOST_MOVES];
        speeds = new int[MOST_MOVES + 1];
        moves = 0;
        nextFirst = packed(1, 0, 0);
        nextLast = packed(1, 0, 0);
        rate = ACCELERATION_AT_FIRST;
        speedsStand = false;
    }

    public boolean first(int x, int y, int z) {
        if (!isStep(x, y, z)) {
            return false;
        }
        nextFirst = packed(x, y, z);
        return true;
    }

    public boolean last(int x, int y, int z) {
        if (!isStep(x, y, z)) {
            return false;
        }
        nextLast = packed(x, y, z);
        return true;
    }

    public int move(int n, int feed) {
        if (!isWithin(n, 1, MOST_TICKS) || !isWithin(feed, 1, MOST_FEED) || moves >= MOST_MOVES) {
            return NONE;
        }
        ticks[moves] = n;
        feeds[moves] = feed;
        lastSteps[moves] = nextLast;
        turnLimits[moves] = moves == 0 ? 0 : turnLimit(moves - 1, feed);
        moves++;
        speedsStand = false;
        return moves;
    }

    public int back(int n) {
        if (!isWithin(n, 0, moves)) {
            return NONE;
        }
        moves -= n;
        speedsStand = false;
        return moves;
    }

    public boolean acceleration(int a) {
        if (!isWithin(a, 1, MOST_ACCELERATION)) {
            return false;
        }
        rate = a;
        speedsStand = false;
        return true;
    }

    public int limit(int k) {
        return isWithin(k, 0, moves) ? limitAt(k) : NONE;
    }

    public int speed(int k) {
        if (!isWithin(k, 0, moves)) {
            return NONE;
        }
        reckonSpeeds();
        return speeds[k];
    }

    public long sum() {
        reckonSpeeds();
        long total = 0;
        for (int k = 0; k <= moves; k++) {
            total += speeds[k];
        }
        return total;
    }

    public int below() {
        reckonSpeeds();
        int count = 0;
        for (int k = 0; k <= moves; k++) {
            if (speeds[k] < limitAt(k)) {
                count++;
            }
        }
        return count;
    }

    private static boolean isWithin(int value, int least, int most) {
        return least <= value && value <= most;
    }

    private static boolean isStep(int x, int y, int z) {
        return isWithin(x, -1, 1) && isWithin(y, -1, 1) && isWithin(z, -1, 1)
                && (x != 0 || y != 0 || z != 0);
    }

    // A step is kept as one number of three digits to the base 3, so that one row holds the steps.
    private static int packed(int x, int y, int z) {
        return (x + 1) * 9 + (y + 1) * 3 + (z + 1);
    }

    private static int sumOfProducts(int stepA, int stepB) {
        int x = (stepA / 9 - 1) * (stepB / 9 - 1);
        int y = (stepA / 3 % 3 - 1) * (stepB / 3 % 3 - 1);
        int z = (stepA % 3 - 1) * (stepB % 3 - 1);
        return x + y + z;
    }

    private static int sumOfSquares(int step) {
        return sumOfProducts(step, step);
    }

    // The first step told stands for the move to come, which is not in the rows yet.
    private int turnLimit(int before, int feed) {
        int step = lastSteps[before];
        int squares = Math.max(sumOfSquares(step), sumOfSquares(nextFirst));
        if (squares < 1) {
            return 0;
        }
        return Math.min(feeds[before], feed) * Math.max(0, sumOfProducts(step, nextFirst)) / squares;
    }

    private int limitAt(int k) {
        return k <= 0 || k >= moves ? 0 : turnLimits[k];
    }

    // One pass each way is enough: where the way back lowers a corner, that corner is still
    // no slower than the one after it, so what the way forth has bounded stays within bounds.
    private void reckonSpeeds() {
        if (speedsStand) {
            return;
        }
        speeds[0] = 0;
        for (int k = 1; k <= moves; k++) {
            speeds[k] = fastestAcross(ticks[k - 1], speeds[k - 1], limitAt(k));
        }
        for (int k = moves - 1; k >= 0; k--) {
            speeds[k] = fastestAcross(ticks[k], speeds[k + 1], speeds[k]);
        }
        speedsStand = true;
    }

    // The root is sought in whole numbers, bit by bit: the speeds are exact, and the loop's end is plain.
    private int fastestAcross(int n, int from, int most) {
        long square = (long) from * from + 2L * rate * n;
        if ((long) most * most <= square) {
            return most;
        }
        int root = 0;
        for (int bit = HIGHEST_SPEED_BIT; bit >= 0; bit--) {
            long higher = root + (1L << bit);
            if (higher * higher <= square) {
                root += 1 << bit;
            }
        }
        return root;
    }
}
