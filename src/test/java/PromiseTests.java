/** Each promise of the document by itself: ordinary inputs, the edges, and wrong inputs. */
public final class PromiseTests {
    private static final int LOWEST = Integer.MIN_VALUE;
    private static final int HIGHEST = Integer.MAX_VALUE;
    private static int checked = 0;
    private static int wrong = 0;

    private static void due(String call, long got, long want) {
        checked++;
        if (got != want) {
            wrong++;
            System.out.println(call + " answered " + got + ", due is " + want);
        }
    }

    private static void due(String call, boolean got, boolean want) {
        due(call, got ? 1 : 0, want ? 1 : 0);
    }

    private static void dueSpeeds(String path, SpeedRows rows, int... want) {
        long total = 0;
        for (int k = 0; k < want.length; k++) {
            due(path + ": speed(" + k + ")", rows.speed(k), want[k]);
            total += want[k];
        }
        due(path + ": speed(" + want.length + ")", rows.speed(want.length), -1);
        due(path + ": sum()", rows.sum(), total);
    }

    private static void dueLimits(String path, SpeedRows rows, int... want) {
        for (int k = 0; k < want.length; k++) {
            due(path + ": limit(" + k + ")", rows.limit(k), want[k]);
        }
        due(path + ": limit(" + want.length + ")", rows.limit(want.length), -1);
    }

    private static SpeedRows straight(int moves, int n, int feed) {
        SpeedRows rows = new SpeedRows();
        for (int i = 1; i <= moves; i++) {
            due("straight move " + i, rows.move(n, feed), i);
        }
        return rows;
    }

    private static void promise1NewObject() {
        due("1: back(0)", new SpeedRows().back(0), 0);
        due("1: back(1)", new SpeedRows().back(1), -1);
        due("1: below()", new SpeedRows().below(), 0);
        due("1: move", new SpeedRows().move(1, 1), 1);
        dueLimits("1: new", new SpeedRows(), 0);
        dueSpeeds("1: new", new SpeedRows(), 0);
        SpeedRows one = straight(3, 50, 50);
        SpeedRows other = new SpeedRows();
        due("1: another object has no moves", other.move(5, 5), 1);
        due("1: nor does it change the first", one.back(0), 3);
    }

    private static int limitAfter(int[] last, int[] first, int feed) {
        SpeedRows rows = new SpeedRows();
        due("last", rows.last(last[0], last[1], last[2]), true);
        due("first move", rows.move(1, feed), 1);
        due("first", rows.first(first[0], first[1], first[2]), true);
        due("second move", rows.move(1, feed), 2);
        return rows.limit(1);
    }

    private static void promises2And3EveryStep() {
        for (int a = 0; a < 27; a++) {
            for (int b = 0; b < 27; b++) {
                if (a == 13 || b == 13) {
                    continue;
                }
                int[] s = {a / 9 - 1, a / 3 % 3 - 1, a % 3 - 1};
                int[] t = {b / 9 - 1, b / 3 % 3 - 1, b % 3 - 1};
                int products = s[0] * t[0] + s[1] * t[1] + s[2] * t[2];
                int ofS = s[0] * s[0] + s[1] * s[1] + s[2] * s[2];
                int ofT = t[0] * t[0] + t[1] * t[1] + t[2] * t[2];
                long want = products <= 0 ? 0 : 99998L * products / Math.max(ofS, ofT);
                due("2, 3: steps " + a + " and " + b, limitAfter(s, t, 99998), want);
            }
        }
    }

    private static void promises2And3WrongSteps() {
        int[] outside = {-2, 2, 3, -3, 257, -255, LOWEST, LOWEST + 1, HIGHEST, HIGHEST - 1};
        SpeedRows rows = new SpeedRows();
        for (int value : outside) {
            for (int inside = -1; inside <= 1; inside++) {
                due("2: first x " + value, rows.first(value, inside, 1), false);
                due("2: first y " + value, rows.first(1, value, inside), false);
                due("2: first z " + value, rows.first(inside, 1, value), false);
                due("3: last x " + value, rows.last(value, inside, 1), false);
                due("3: last y " + value, rows.last(1, value, inside), false);
                due("3: last z " + value, rows.last(inside, 1, value), false);
            }
        }
        due("2: first(0, 0, 0)", rows.first(0, 0, 0), false);
        due("3: last(0, 0, 0)", rows.last(0, 0, 0), false);
    }

    private static void promise2First() {
        SpeedRows rows = straight(2, 10, 60);
        due("2: at first 1 0 0", rows.limit(1), 60);
        due("2: first(1, 1, 1)", rows.first(1, 1, 1), true);
        due("2: first(0, 0, 0)", rows.first(0, 0, 0), false);
        due("2: first(1, 2, 1)", rows.first(1, 2, 1), false);
        due("2: move", rows.move(10, 60), 3);
        due("2: the one told before stays", rows.limit(2), 20);
        due("2: move", rows.move(10, 60), 4);
        due("2: and stays for the moves after", rows.limit(3), 20);
        due("2: first(1, 1, 0)", rows.first(1, 1, 0), true);
        dueLimits("2: moves made keep theirs", rows, 0, 60, 20, 20, 0);
        due("2: back(1)", rows.back(1), 3);
        due("2: move", rows.move(10, 60), 4);
        dueLimits("2: told stays over back", rows, 0, 60, 20, 30, 0);
    }

    private static void promise3Last() {
        SpeedRows rows = straight(1, 10, 60);
        due("3: last(1, -1, -1)", rows.last(1, -1, -1), true);
        due("3: last(0, 0, 0)", rows.last(0, 0, 0), false);
        due("3: last(-2, 0, 0)", rows.last(-2, 0, 0), false);
        due("3: move", rows.move(10, 60), 2);
        due("3: at first 1 0 0", rows.limit(1), 60);
        due("3: move", rows.move(10, 60), 3);
        due("3: the one told before stays", rows.limit(2), 20);
        due("3: move", rows.move(10, 60), 4);
        due("3: and stays for the moves after", rows.limit(3), 20);
        due("3: last(-1, 0, 0)", rows.last(-1, 0, 0), true);
        due("3: the last move made keeps its own", rows.move(10, 60), 5);
        due("3: last(1, 1, 0)", rows.last(1, 1, 0), true);
        due("3: move", rows.move(10, 60), 6);
        dueLimits("3: all", rows, 0, 60, 20, 20, 20, 0, 0);
        due("3: back(5)", rows.back(5), 1);
        due("3: move", rows.move(10, 60), 2);
        due("3: the move that is latest again counts", rows.limit(1), 60);
        due("3: move", rows.move(10, 60), 3);
        due("3: told stays over back", rows.limit(2), 30);
    }

    private static void promise4Move() {
        SpeedRows rows = new SpeedRows();
        int[] wrongTicks = {0, -1, 100001, 165536, LOWEST, HIGHEST};
        int[] wrongFeeds = {0, -1, 100000, 165536, LOWEST, HIGHEST};
        for (int n : wrongTicks) {
            due("4: ticks " + n, rows.move(n, 5), -1);
        }
        for (int feed : wrongFeeds) {
            due("4: feed " + feed, rows.move(5, feed), -1);
        }
        due("4: both wrong", rows.move(0, 0), -1);
        due("4: the wrong ones made no move", rows.back(0), 0);
        due("4: least", rows.move(1, 1), 1);
        due("4: most", rows.move(100000, 99999), 2);
        due("4: wrong one in between", rows.move(100001, 99999), -1);
        due("4: most ticks", rows.move(100000, 1), 3);
        due("4: most feed", rows.move(1, 99999), 4);
        dueLimits("4: limits", rows, 0, 1, 1, 1, 0);
        dueSpeeds("4: speeds", rows, 0, 1, 1, 1, 0);
    }

    private static void promise4ManyMoves() {
        SpeedRows rows = straight(500, 1, 99999);
        due("4: sum of 500", rows.sum() > 0, true);
        due("4: middle of 500", rows.limit(250), 99999);
        due("4: no corner 501", rows.speed(501), -1);
        due("4: 501", rows.move(1, 1), 501);
    }

    private static void promise5Back() {
        SpeedRows rows = straight(3, 100, 500);
        due("5: back(-1)", rows.back(-1), -1);
        due("5: back(lowest)", rows.back(LOWEST), -1);
        due("5: back(4)", rows.back(4), -1);
        due("5: back(highest)", rows.back(HIGHEST), -1);
        due("5: back(0)", rows.back(0), 3);
        dueSpeeds("5: all stand", rows, 0, 141, 141, 0);
        due("5: back(1)", rows.back(1), 2);
        dueLimits("5: two", rows, 0, 500, 0);
        dueSpeeds("5: two", rows, 0, 141, 0);
        due("5: below()", rows.below(), 1);
        due("5: move after back", rows.move(100, 30), 3);
        dueLimits("5: three", rows, 0, 500, 30, 0);
        dueSpeeds("5: three", rows, 0, 141, 30, 0);
        due("5: back(3)", rows.back(3), 0);
        due("5: back(1) of none", rows.back(1), -1);
        due("5: back(0) of none", rows.back(0), 0);
        dueLimits("5: none", rows, 0);
        dueSpeeds("5: none", rows, 0);
        due("5: acceleration stays as told", rows.acceleration(10), true);
        due("5: move", rows.move(100, 500), 1);
        due("5: move", rows.move(100, 500), 2);
        due("5: back(2)", rows.back(2), 0);
        due("5: move", rows.move(100, 500), 1);
        due("5: move", rows.move(100, 500), 2);
        dueSpeeds("5: with acceleration 10", rows, 0, 44, 0);
    }

    private static void promise6Acceleration() {
        SpeedRows rows = straight(2, 2, 99999);
        due("6: 100 at first", rows.speed(1), 20);
        int[] outside = {0, -1, -100, 10001, 65636, LOWEST, HIGHEST};
        for (int a : outside) {
            due("6: acceleration(" + a + ")", rows.acceleration(a), false);
        }
        due("6: the wrong ones change nothing", rows.speed(1), 20);
        due("6: acceleration(1)", rows.acceleration(1), true);
        dueSpeeds("6: least", rows, 0, 2, 0);
        due("6: acceleration(10000)", rows.acceleration(10000), true);
        dueSpeeds("6: most", rows, 0, 200, 0);
        due("6: acceleration(10001)", rows.acceleration(10001), false);
        dueSpeeds("6: still most", rows, 0, 200, 0);
        due("6: it changes no limit", rows.limit(1), 99999);
        due("6: acceleration(100)", rows.acceleration(100), true);
        dueSpeeds("6: back to 100", rows, 0, 20, 0);
    }

    private static void promise7Limit() {
        SpeedRows rows = new SpeedRows();
        due("7: limit(0) of none", rows.limit(0), 0);
        due("7: limit(1) of none", rows.limit(1), -1);
        due("7: limit(-1) of none", rows.limit(-1), -1);
        due("7: move", rows.move(1, 700), 1);
        dueLimits("7: one move", rows, 0, 0);
        due("7: first(1, 1, 0)", rows.first(1, 1, 0), true);
        due("7: last(1, 1, 1)", rows.last(1, 1, 1), true);
        due("7: move", rows.move(1, 501), 2);
        due("7: move", rows.move(1, 500), 3);
        due("7: move", rows.move(1, 1), 4);
        due("7: last of the one, first of the next", rows.limit(1), 250);
        dueLimits("7: the lesser feed, cut", rows, 0, 250, 333, 0, 0);
        due("7: limit(5)", rows.limit(5), -1);
        due("7: limit(lowest)", rows.limit(LOWEST), -1);
        due("7: limit(highest)", rows.limit(HIGHEST), -1);
        due("7: greatest", straight(2, 1, 99999).limit(1), 99999);
    }

    private static void promise8Speed() {
        SpeedRows rows = straight(3, 100, 500);
        due("8: speed(-1)", rows.speed(-1), -1);
        due("8: speed(lowest)", rows.speed(LOWEST), -1);
        due("8: speed(highest)", rows.speed(HIGHEST), -1);
        dueSpeeds("8: straight", rows, 0, 141, 141, 0);
        dueSpeeds("8: one move", straight(1, 100000, 99999), 0, 0);
        dueSpeeds("8: forth is cut at each corner", straight(6, 1, 99999), 0, 14, 19, 23, 19, 14, 0);
        dueSpeeds("8: at the limit", straight(3, 100, 141), 0, 141, 141, 0);
        dueSpeeds("8: limit one above", straight(3, 100, 142), 0, 141, 141, 0);
        dueSpeeds("8: limit one below", straight(3, 100, 140), 0, 140, 140, 0);
        promise8Squares();
        promise8Valley();
        promise8Greatest();
    }

    private static void promise8Squares() {
        SpeedRows rows = new SpeedRows();
        due("8: acceleration(1)", rows.acceleration(1), true);
        for (int root = 2; root <= 440; root += 73) {
            int half = root * root / 2;
            due("8: back", rows.back(rows.back(0)), 0);
            due("8: move", rows.move(half, 99999), 1);
            due("8: move", rows.move(100000, 99999), 2);
            due("8: root of " + 2 * half, rows.speed(1), root % 2 == 0 ? root : root - 1);
        }
    }

    private static void promise8Valley() {
        SpeedRows rows = new SpeedRows();
        due("8: acceleration(1)", rows.acceleration(1), true);
        int[] feeds = {900, 900, 900, 5, 900, 900, 900};
        int[] n = {5000, 12, 10, 8, 10, 12, 5000};
        for (int i = 0; i < n.length; i++) {
            due("8: move", rows.move(n[i], feeds[i]), i + 1);
        }
        dueSpeeds("8: a slow move slows both sides", rows, 0, 7, 6, 5, 5, 6, 7, 0);
        due("8: back(1)", rows.back(1), 6);
        dueSpeeds("8: the end slows the way to it", rows, 0, 7, 6, 5, 5, 4, 0);
    }

    private static void promise8Greatest() {
        SpeedRows rows = new SpeedRows();
        due("8: acceleration(10000)", rows.acceleration(10000), true);
        for (int i = 1; i <= 20; i++) {
            due("8: move", rows.move(100000, 99999), i);
        }
        due("8: 2 A N above 2^30", rows.speed(1), 44721);
        due("8: squares above 2^32", rows.speed(4), 89442);
        due("8: the greatest limit is reached", rows.speed(6), 99999);
        due("8: in the middle", rows.speed(10), 99999);
        due("8: from the end", rows.speed(16), 89442);
        due("8: at the end", rows.speed(20), 0);
    }

    private static void promise9Sum() {
        due("9: none", new SpeedRows().sum(), 0);
        due("9: one", straight(1, 5, 5).sum(), 0);
        SpeedRows rows = straight(3, 100, 500);
        due("9: three", rows.sum(), 282);
        due("9: move", rows.move(100, 500), 4);
        due("9: after a move", rows.sum(), 141 + 199 + 141);
        due("9: acceleration(10)", rows.acceleration(10), true);
        due("9: after the acceleration", rows.sum(), 44 + 62 + 44);
        due("9: back(2)", rows.back(2), 2);
        due("9: after back", rows.sum(), 44);
        SpeedRows slow = straight(400, 100000, 7);
        due("9: 400 moves", slow.sum(), 399 * 7);
    }

    private static void promise10Below() {
        due("10: none", new SpeedRows().below(), 0);
        due("10: one", straight(1, 5, 5).below(), 0);
        due("10: all at their limits", straight(5, 1000, 20).below(), 0);
        due("10: equal is not below", straight(3, 100, 141).below(), 0);
        due("10: one above is", straight(3, 100, 142).below(), 2);
        SpeedRows rows = straight(6, 100, 200);
        due("10: all but the middle one", rows.below(), 4);
        due("10: acceleration(10)", rows.acceleration(10), true);
        due("10: after the acceleration", rows.below(), 5);
        due("10: acceleration(10000)", rows.acceleration(10000), true);
        due("10: and again", rows.below(), 0);
        due("10: acceleration(50)", rows.acceleration(50), true);
        due("10: back(3)", rows.back(3), 3);
        due("10: after back", rows.below(), 2);
        due("10: move", rows.move(100, 1), 4);
        due("10: after a move", rows.below(), 2);
    }

    public static void main(String[] args) {
        promise1NewObject();
        promises2And3EveryStep();
        promises2And3WrongSteps();
        promise2First();
        promise3Last();
        promise4Move();
        promise4ManyMoves();
        promise5Back();
        promise6Acceleration();
        promise7Limit();
        promise8Speed();
        promise9Sum();
        promise10Below();
        System.out.println(checked + " answers, " + wrong + " not as due");
        if (wrong != 0) {
            System.exit(1);
        }
    }
}
