/** One test for each sentence of the document that names a boundary case; each test begins with the sentence. */
public final class BoundaryTests {
    private static final int LOWEST = Integer.MIN_VALUE;
    private static final int HIGHEST = Integer.MAX_VALUE;
    // Some would be right if they were cut to a byte or a short.
    private static final int[] NO_NUMBERS = {
        -2, 2, 255, 257, 65535, 65537, LOWEST, LOWEST + 1, HIGHEST, HIGHEST - 1};
    private static final int[] NO_CORNERS = {
        -1, -2, 256, 2000, 2001, 65536, LOWEST, LOWEST + 1, HIGHEST, HIGHEST - 1};
    private static final int KINDS_OF_PATH = 6;
    private static String sentence = "";
    private static int sentences = 0;
    private static int checked = 0;
    private static int wrong = 0;

    private interface Call {
        long on(SpeedRows rows);
    }

    private static void says(String words) {
        sentence = words;
        sentences++;
    }

    private static void due(String call, long got, long want) {
        checked++;
        if (got != want) {
            wrong++;
            System.out.println(sentence + ": " + call + " answered " + got + ", due is " + want);
        }
    }

    private static long one(boolean answer) {
        return answer ? 1 : 0;
    }

    private static void dueLimits(SpeedRows rows, int... want) {
        for (int k = 0; k < want.length; k++) {
            due("limit(" + k + ")", rows.limit(k), want[k]);
        }
        due("limit(" + want.length + ")", rows.limit(want.length), -1);
    }

    private static void dueSpeeds(SpeedRows rows, int... want) {
        for (int k = 0; k < want.length; k++) {
            due("speed(" + k + ")", rows.speed(k), want[k]);
        }
        due("speed(" + want.length + ")", rows.speed(want.length), -1);
    }

    private static SpeedRows straight(int moves, int n, int feed) {
        SpeedRows rows = new SpeedRows();
        for (int i = 1; i <= moves; i++) {
            due("move " + i, rows.move(n, feed), i);
        }
        return rows;
    }

    /** Moves of ticks and feeds by turns, all along 1 0 0. */
    private static SpeedRows along(int a, int... ticksAndFeeds) {
        SpeedRows rows = new SpeedRows();
        due("acceleration(" + a + ")", one(rows.acceleration(a)), 1);
        for (int i = 0; i < ticksAndFeeds.length; i += 2) {
            due("move", rows.move(ticksAndFeeds[i], ticksAndFeeds[i + 1]), i / 2 + 1);
        }
        return rows;
    }

    private static int limitOfTurn(int[] last, int feed, int[] first, int nextFeed) {
        SpeedRows rows = new SpeedRows();
        due("last", one(rows.last(last[0], last[1], last[2])), 1);
        due("move", rows.move(1, feed), 1);
        due("first", one(rows.first(first[0], first[1], first[2])), 1);
        due("move", rows.move(1, nextFeed), 2);
        return rows.limit(1);
    }

    private static int[] step(int x, int y, int z) {
        return new int[] {x, y, z};
    }

    /** Paths without moves (new, told, emptied) and with some, by their number. */
    private static SpeedRows path(int kind) {
        SpeedRows rows = new SpeedRows();
        if (kind == 0) {
            return rows;
        }
        rows.last(1, 1, 0);
        rows.first(0, 1, 1);
        rows.acceleration(37);
        int moves = kind == 1 ? 0 : kind == 2 ? 3 : kind - 2;
        for (int i = 0; i < moves; i++) {
            rows.move(5 + 20 * i, 900 - 100 * i);
            rows.first(1, 1, i % 2);
        }
        if (kind == 2) {
            rows.back(3);
        }
        return rows;
    }

    private static void sameNow(String after, SpeedRows rows, SpeedRows twin) {
        int moves = twin.back(0);
        due("moves after " + after, rows.back(0), moves);
        for (int k = -1; k <= moves + 1; k++) {
            due("limit(" + k + ") after " + after, rows.limit(k), twin.limit(k));
            due("speed(" + k + ") after " + after, rows.speed(k), twin.speed(k));
        }
        due("sum() after " + after, rows.sum(), twin.sum());
        due("below() after " + after, rows.below(), twin.below());
    }

    private static void sameFromHere(String after, SpeedRows rows, SpeedRows twin) {
        sameNow(after, rows, twin);
        due("move after " + after, rows.move(9, 640), twin.move(9, 640));
        sameNow(after + " and a move", rows, twin);
        due("move after " + after, rows.move(300, 777), twin.move(300, 777));
        sameNow(after + " and two moves", rows, twin);
        due("back(1) after " + after, rows.back(1), twin.back(1));
        sameNow(after + " and back(1)", rows, twin);
        due("acceleration(7) after " + after, one(rows.acceleration(7)), one(twin.acceleration(7)));
        sameNow(after + " and an acceleration", rows, twin);
        due("back of all after " + after, rows.back(rows.back(0)), twin.back(twin.back(0)));
        sameNow(after + " and back of all", rows, twin);
    }

    /** The call is refused on every kind of path, and all that a twin answers without it comes after it too. */
    private static void refused(String call, long want, Call refused) {
        for (int kind = 0; kind < KINDS_OF_PATH; kind++) {
            for (int asked = 0; asked <= 1; asked++) {
                SpeedRows rows = path(kind);
                SpeedRows twin = path(kind);
                if (asked == 1) {
                    sameNow("nothing", rows, twin);
                }
                String where = call + " on path " + kind;
                due(where, refused.on(rows), want);
                sameFromHere(where, rows, twin);
                due(where + " again", refused.on(rows), want);
            }
        }
    }

    private static void atMost512Calls() {
        says("Use: at most 512 calls");
        SpeedRows speeds = straight(511, 100000, 3);
        due("the 512th call, speed(510)", speeds.speed(510), 3);
        SpeedRows sums = straight(511, 100000, 3);
        due("the 512th call, sum()", sums.sum(), 3 * 510);
        SpeedRows slower = straight(511, 1, 99999);
        due("the 512th call, below()", slower.below(), 510);
        SpeedRows backs = straight(511, 100000, 3);
        due("the 512th call, back(511)", backs.back(511), 0);
        SpeedRows moves = straight(511, 100000, 3);
        due("the 512th call, move", moves.move(1, 1), 512);
    }

    private static void atMost2000Moves() {
        says("Terms, 4: moves, at most 2000; -1 if there are 2000");
        SpeedRows rows = straight(1999, 100, 141);
        due("move 2000", rows.move(100, 141), 2000);
        due("move 2001", rows.move(100, 141), -1);
        due("move 2001 with wrong ticks", rows.move(0, 141), -1);
        due("moves", rows.back(0), 2000);
        due("limit(1999)", rows.limit(1999), 141);
        due("limit(2000)", rows.limit(2000), 0);
        due("limit(2001)", rows.limit(2001), -1);
        due("speed(1999)", rows.speed(1999), 141);
        due("speed(2000)", rows.speed(2000), 0);
        due("speed(2001)", rows.speed(2001), -1);
        due("sum()", rows.sum(), 1999 * 141);
        due("below()", rows.below(), 0);
        due("back(2001)", rows.back(2001), -1);
        due("back(1)", rows.back(1), 1999);
        due("one has room again", rows.move(100, 142), 2000);
        due("and no more", rows.move(100, 142), -1);
        due("back(2000)", rows.back(2000), 0);
        due("all have room again", rows.move(100, 142), 1);
    }

    private static void ticks() {
        says("Terms, 4: N ticks 1 .. 100000; -1 if N is none");
        dueSpeeds(along(100, 1, 99999, 100000, 99999), 0, 14, 0);
        dueSpeeds(along(100, 2, 99999, 100000, 99999), 0, 20, 0);
        dueSpeeds(along(10, 100000, 99999, 100000, 99999), 0, 1414, 0);
        dueSpeeds(along(10, 99999, 99999, 100000, 99999), 0, 1414, 0);
        dueSpeeds(along(8, 100000, 99999, 100000, 99999), 0, 1264, 0);
        dueSpeeds(along(8, 99999, 99999, 100000, 99999), 0, 1264, 0);
        dueSpeeds(along(5, 100000, 99999, 100000, 99999), 0, 1000, 0);
        dueSpeeds(along(5, 99999, 99999, 100000, 99999), 0, 999, 0);
        for (int n : new int[] {0, -1, 100001, 131073, LOWEST, LOWEST + 1, HIGHEST, HIGHEST - 1}) {
            refused("move(" + n + ", 1)", -1, rows -> rows.move(n, 1));
            refused("move(" + n + ", 99999)", -1, rows -> rows.move(n, 99999));
        }
    }

    private static void feed() {
        says("Terms, 4: a feed 1 .. 99999; -1 if the feed is none");
        due("limit of feed 1", straight(2, 1, 1).limit(1), 1);
        due("limit of feed 2", straight(2, 1, 2).limit(1), 2);
        due("limit of feed 99999", straight(2, 1, 99999).limit(1), 99999);
        due("limit of feed 99998", straight(2, 1, 99998).limit(1), 99998);
        for (int feed : new int[] {0, -1, 100000, 131073, LOWEST, LOWEST + 1, HIGHEST, HIGHEST - 1}) {
            refused("move(1, " + feed + ")", -1, rows -> rows.move(1, feed));
            refused("move(100000, " + feed + ")", -1, rows -> rows.move(100000, feed));
        }
    }

    private static void ticksAndFeed() {
        says("4: -1 if N or the feed is none, both too");
        refused("move(0, 0)", -1, rows -> rows.move(0, 0));
        refused("move(100001, 100000)", -1, rows -> rows.move(100001, 100000));
        refused("move(lowest, highest)", -1, rows -> rows.move(LOWEST, HIGHEST));
        refused("move(highest, lowest)", -1, rows -> rows.move(HIGHEST, LOWEST));
    }

    private static void moveCounts() {
        says("4: one more move: how many");
        SpeedRows rows = new SpeedRows();
        due("the first", rows.move(1, 1), 1);
        due("the second", rows.move(100000, 99999), 2);
        due("a refused one", rows.move(0, 1), -1);
        due("the third", rows.move(1, 99999), 3);
        due("back(3)", rows.back(3), 0);
        due("the first again", rows.move(100000, 1), 1);
    }

    private static void stepsInside() {
        says("Terms, 2, 3: three numbers -1 .. 1");
        for (int side = -1; side <= 1; side += 2) {
            for (int axis = 0; axis < 3; axis++) {
                int[] s = step(0, 0, 0);
                s[axis] = side;
                int[] opposite = step(-s[0], -s[1], -s[2]);
                due("the same step", limitOfTurn(s, 50, s, 50), 50);
                due("the opposite step", limitOfTurn(s, 50, opposite, 50), 0);
                due("all three numbers", limitOfTurn(s, 50, step(side, side, side), 50), 16);
                due("all three and all three",
                        limitOfTurn(step(side, side, side), 50, step(side, side, side), 50), 50);
            }
        }
    }

    private static void firstOutside() {
        says("2: first: false (the one told before stays) if a number is below -1 or above 1");
        for (int value : NO_NUMBERS) {
            refused("first x " + value, 0, rows -> one(rows.first(value, 0, 0)));
            refused("first y " + value, 0, rows -> one(rows.first(0, value, 0)));
            refused("first z " + value, 0, rows -> one(rows.first(0, 0, value)));
            refused("first x " + value + " beside others", 0, rows -> one(rows.first(value, 1, -1)));
            refused("first y " + value + " beside others", 0, rows -> one(rows.first(-1, value, 1)));
            refused("first z " + value + " beside others", 0, rows -> one(rows.first(1, -1, value)));
            refused("first all " + value, 0, rows -> one(rows.first(value, value, value)));
        }
    }

    private static void firstAllZero() {
        says("2: first: false (the one told before stays) if all are 0");
        refused("first(0, 0, 0)", 0, rows -> one(rows.first(0, 0, 0)));
        SpeedRows rows = straight(1, 1, 60);
        due("first(1, 1, 1)", one(rows.first(1, 1, 1)), 1);
        due("first(0, 0, 0)", one(rows.first(0, 0, 0)), 0);
        due("move", rows.move(1, 60), 2);
        due("the one told before stays", rows.limit(1), 20);
    }

    private static void lastOutside() {
        says("3: last: false (the one told before stays) if a number is below -1 or above 1");
        for (int value : NO_NUMBERS) {
            refused("last x " + value, 0, rows -> one(rows.last(value, 0, 0)));
            refused("last y " + value, 0, rows -> one(rows.last(0, value, 0)));
            refused("last z " + value, 0, rows -> one(rows.last(0, 0, value)));
            refused("last x " + value + " beside others", 0, rows -> one(rows.last(value, 1, -1)));
            refused("last y " + value + " beside others", 0, rows -> one(rows.last(-1, value, 1)));
            refused("last z " + value + " beside others", 0, rows -> one(rows.last(1, -1, value)));
            refused("last all " + value, 0, rows -> one(rows.last(value, value, value)));
        }
    }

    private static void lastAllZero() {
        says("3: last: false (the one told before stays) if all are 0");
        refused("last(0, 0, 0)", 0, rows -> one(rows.last(0, 0, 0)));
        SpeedRows rows = new SpeedRows();
        due("last(1, 1, 1)", one(rows.last(1, 1, 1)), 1);
        due("last(0, 0, 0)", one(rows.last(0, 0, 0)), 0);
        due("move", rows.move(1, 60), 1);
        due("move", rows.move(1, 60), 2);
        due("the one told before stays", rows.limit(1), 20);
    }

    private static void firstAtFirst() {
        says("2: at first 1 0 0");
        SpeedRows rows = new SpeedRows();
        due("last(1, 1, 0)", one(rows.last(1, 1, 0)), 1);
        due("move", rows.move(1, 60), 1);
        due("last(0, 1, 1)", one(rows.last(0, 1, 1)), 1);
        due("move", rows.move(1, 60), 2);
        due("last(1, 0, 1)", one(rows.last(1, 0, 1)), 1);
        due("move", rows.move(1, 60), 3);
        due("last(-1, 0, 0)", one(rows.last(-1, 0, 0)), 1);
        due("move", rows.move(1, 60), 4);
        due("move", rows.move(1, 60), 5);
        dueLimits(rows, 0, 30, 0, 30, 0, 0);
        staysAtFirst(fresh -> one(fresh.first(0, 0, 0)));
        staysAtFirst(fresh -> one(fresh.first(0, 2, 0)));
    }

    private static void lastAtFirst() {
        says("2: at first 1 0 0, here as with the last step");
        SpeedRows rows = new SpeedRows();
        due("move", rows.move(1, 60), 1);
        due("first(1, 1, 0)", one(rows.first(1, 1, 0)), 1);
        due("move", rows.move(1, 60), 2);
        due("first(0, 1, 1)", one(rows.first(0, 1, 1)), 1);
        due("move", rows.move(1, 60), 3);
        due("first(1, 0, 1)", one(rows.first(1, 0, 1)), 1);
        due("move", rows.move(1, 60), 4);
        due("first(-1, 0, 0)", one(rows.first(-1, 0, 0)), 1);
        due("move", rows.move(1, 60), 5);
        dueLimits(rows, 0, 30, 0, 30, 0, 0);
        staysAtFirst(fresh -> one(fresh.last(0, 0, 0)));
        staysAtFirst(fresh -> one(fresh.last(0, 0, -2)));
    }

    private static void staysAtFirst(Call wrongStep) {
        SpeedRows rows = new SpeedRows();
        due("a wrong step", wrongStep.on(rows), 0);
        due("move", rows.move(1, 60), 1);
        due("move", rows.move(1, 60), 2);
        due("1 0 0 stays", rows.limit(1), 60);
    }

    private static void backNone() {
        says("5: back: the latest n moves are taken away, n is 0");
        due("of none", new SpeedRows().back(0), 0);
        SpeedRows rows = straight(2, 100, 500);
        due("of two", rows.back(0), 2);
        dueLimits(rows, 0, 500, 0);
        dueSpeeds(rows, 0, 141, 0);
        refused("back(0), but for its answer", 0, path -> Math.min(0, path.back(0)));
    }

    private static void backBelowNone() {
        says("5: back: -1 if n is below 0");
        refused("back(-1)", -1, rows -> rows.back(-1));
        refused("back(-2)", -1, rows -> rows.back(-2));
        refused("back(lowest)", -1, rows -> rows.back(LOWEST));
        refused("back(lowest + 1)", -1, rows -> rows.back(LOWEST + 1));
    }

    private static void backTooMany() {
        says("5: back: -1 if there are not so many");
        refused("back of one more", -1, rows -> rows.back(rows.back(0) + 1));
        refused("back(2000)", -1, rows -> rows.back(2000));
        refused("back(2001)", -1, rows -> rows.back(2001));
        refused("back(highest)", -1, rows -> rows.back(HIGHEST));
        refused("back(highest - 1)", -1, rows -> rows.back(HIGHEST - 1));
        due("back(1) of none", new SpeedRows().back(1), -1);
        due("back(4) of three", straight(3, 1, 1).back(4), -1);
    }

    private static void backAll() {
        says("5: back: the latest n moves are taken away, all and all but one");
        due("back(3) of three", straight(3, 100, 500).back(3), 0);
        SpeedRows rows = straight(3, 100, 500);
        due("sum()", rows.sum(), 282);
        due("back(2) of three", rows.back(2), 1);
        dueLimits(rows, 0, 0);
        dueSpeeds(rows, 0, 0);
        due("back(2) of one", rows.back(2), -1);
        due("back(1) of one", rows.back(1), 0);
        due("back(1) of none", rows.back(1), -1);
        dueLimits(rows, 0);
        dueSpeeds(rows, 0);
    }

    private static void backTakesTheLatest() {
        says("5: back: the latest, and the moves that stay keep their steps, ticks and feeds");
        SpeedRows rows = new SpeedRows();
        due("last(1, 1, 0)", one(rows.last(1, 1, 0)), 1);
        due("move", rows.move(2, 300), 1);
        due("last(0, 1, 0)", one(rows.last(0, 1, 0)), 1);
        due("move", rows.move(50, 200), 2);
        due("move", rows.move(50, 100), 3);
        dueLimits(rows, 0, 100, 0, 0);
        due("back(2)", rows.back(2), 1);
        due("first(1, 1, 1)", one(rows.first(1, 1, 1)), 1);
        due("move", rows.move(50, 600), 2);
        dueLimits(rows, 0, 200, 0);
        dueSpeeds(rows, 0, 20, 0);
    }

    private static void backTakesMovesAlone() {
        says("5: back: moves alone are taken away; what was told stays, as it does after a move");
        SpeedRows rows = new SpeedRows();
        due("first(0, 1, 1)", one(rows.first(0, 1, 1)), 1);
        due("last(0, 1, 0)", one(rows.last(0, 1, 0)), 1);
        due("acceleration(50)", one(rows.acceleration(50)), 1);
        for (int moves = 2; moves <= 5; moves++) {
            for (int i = 1; i <= moves; i++) {
                due("move", rows.move(1, 60), i);
            }
            due("limit with the steps told", rows.limit(moves - 1), 30);
            due("speed with the acceleration told", rows.speed(moves - 1), 10);
            due("back of all", rows.back(moves), 0);
        }
    }

    private static void accelerationOfMovesMade() {
        says("6: the acceleration counts for the moves that are there");
        SpeedRows rows = straight(2, 2, 99999);
        dueSpeeds(rows, 0, 20, 0);
        due("acceleration(1)", one(rows.acceleration(1)), 1);
        dueSpeeds(rows, 0, 2, 0);
        due("sum()", rows.sum(), 2);
        due("acceleration(0)", one(rows.acceleration(0)), 0);
        dueSpeeds(rows, 0, 2, 0);
        due("acceleration(10000)", one(rows.acceleration(10000)), 1);
        due("sum()", rows.sum(), 200);
        due("acceleration(10001)", one(rows.acceleration(10001)), 0);
        dueSpeeds(rows, 0, 200, 0);
    }

    private static void accelerationInside() {
        says("Terms, 6: the acceleration 1 .. 10000: true");
        dueSpeeds(along(1, 2, 99999, 2, 99999), 0, 2, 0);
        dueSpeeds(along(2, 2, 99999, 2, 99999), 0, 2, 0);
        dueSpeeds(along(1, 50, 99999, 50, 99999), 0, 10, 0);
        dueSpeeds(along(10000, 2, 99999, 2, 99999), 0, 200, 0);
        dueSpeeds(along(9999, 2, 99999, 2, 99999), 0, 199, 0);
        dueSpeeds(along(10000, 100000, 99999, 100000, 99999), 0, 44721, 0);
        dueSpeeds(along(9999, 100000, 99999, 100000, 99999), 0, 44719, 0);
    }

    private static void accelerationOutside() {
        says("Terms, 6: the acceleration: false if it is none");
        int[] outside = {0, -1, 10001, -10000, 65537, 65636, LOWEST, LOWEST + 1, HIGHEST, HIGHEST - 1};
        for (int a : outside) {
            refused("acceleration(" + a + ")", 0, rows -> one(rows.acceleration(a)));
        }
    }

    private static void accelerationAtFirst() {
        says("Terms: 100 at first");
        dueSpeeds(straight(2, 2, 99999), 0, 20, 0);
        dueSpeeds(straight(2, 5000, 99999), 0, 1000, 0);
        SpeedRows rows = new SpeedRows();
        due("acceleration(0)", one(rows.acceleration(0)), 0);
        due("acceleration(10001)", one(rows.acceleration(10001)), 0);
        due("move", rows.move(5000, 99999), 1);
        due("move", rows.move(5000, 99999), 2);
        dueSpeeds(rows, 0, 1000, 0);
    }

    private static void newObject() {
        says("1: no moves");
        due("back(0)", new SpeedRows().back(0), 0);
        due("back(1)", new SpeedRows().back(1), -1);
        due("the first move", new SpeedRows().move(1, 1), 1);
        due("sum()", new SpeedRows().sum(), 0);
        due("below()", new SpeedRows().below(), 0);
        dueLimits(new SpeedRows(), 0);
        dueSpeeds(new SpeedRows(), 0);
        straight(5, 100, 500);
        due("back(0) beside an object with moves", new SpeedRows().back(0), 0);
    }

    private static void noLimit() {
        says("7: limit: -1 if there is no corner k");
        for (int k : NO_CORNERS) {
            refused("limit(" + k + ")", -1, rows -> rows.limit(k));
        }
        refused("limit after the last corner", -1, rows -> rows.limit(rows.back(0) + 1));
    }

    private static void noSpeed() {
        says("8: speed: -1 if there is no corner k");
        for (int k : NO_CORNERS) {
            refused("speed(" + k + ")", -1, rows -> rows.speed(k));
        }
        refused("speed after the last corner", -1, rows -> rows.speed(rows.back(0) + 1));
    }

    private static void noCornerAfterBack() {
        says("7, 8: -1 if there is none any more");
        SpeedRows rows = straight(4, 100, 500);
        due("speed(4)", rows.speed(4), 0);
        due("back(1)", rows.back(1), 3);
        dueLimits(rows, 0, 500, 500, 0);
        dueSpeeds(rows, 0, 141, 141, 0);
        due("limit(4)", rows.limit(4), -1);
        due("speed(4)", rows.speed(4), -1);
        due("move", rows.move(100, 7), 4);
        dueLimits(rows, 0, 500, 500, 7, 0);
        dueSpeeds(rows, 0, 141, 141, 7, 0);
    }

    private static void limitAtTheEnds() {
        says("Terms, 7: the limit is 0 at the beginning and the end");
        dueLimits(new SpeedRows(), 0);
        dueLimits(straight(1, 100000, 99999), 0, 0);
        dueLimits(straight(2, 100000, 99999), 0, 99999, 0);
        SpeedRows rows = straight(3, 100000, 99999);
        dueLimits(rows, 0, 99999, 99999, 0);
        due("back(1)", rows.back(1), 2);
        dueLimits(rows, 0, 99999, 0);
        due("move", rows.move(1, 5), 3);
        dueLimits(rows, 0, 99999, 5, 0);
    }

    private static void lesserFeed() {
        says("Terms, 7: the lesser feed of the two moves");
        int[] x = step(1, 0, 0);
        due("feeds 1 and 99999", limitOfTurn(x, 1, x, 99999), 1);
        due("feeds 99999 and 1", limitOfTurn(x, 99999, x, 1), 1);
        due("feeds 99998 and 99999", limitOfTurn(x, 99998, x, 99999), 99998);
        due("feeds 99999 and 99998", limitOfTurn(x, 99999, x, 99998), 99998);
        due("feeds 99999 and 99999", limitOfTurn(x, 99999, x, 99999), 99999);
    }

    private static void greaterOfNoneAndProducts() {
        says("Terms, 7: the greater of 0 and the sum of the products");
        due("-3", limitOfTurn(step(1, 1, 1), 99999, step(-1, -1, -1), 99999), 0);
        due("-2", limitOfTurn(step(1, -1, 1), 99999, step(-1, 1, 0), 99999), 0);
        due("-1", limitOfTurn(step(0, 1, 0), 99999, step(0, -1, 0), 99999), 0);
        due("-1 of three", limitOfTurn(step(1, 1, 1), 99999, step(1, -1, -1), 99999), 0);
        due("0", limitOfTurn(step(1, 0, 0), 99999, step(0, 1, 1), 99999), 0);
        due("0 of 1 - 1", limitOfTurn(step(1, 1, 0), 99999, step(1, -1, 0), 99999), 0);
        due("1", limitOfTurn(step(0, 0, -1), 99999, step(0, 0, -1), 99999), 99999);
        due("1 of 1 + 1 - 1", limitOfTurn(step(1, 1, 1), 99999, step(1, 1, -1), 99999), 33333);
        due("2", limitOfTurn(step(-1, 0, 1), 99999, step(-1, 0, 1), 99999), 99999);
        due("3", limitOfTurn(step(-1, 1, -1), 99999, step(-1, 1, -1), 99999), 99999);
    }

    private static void greaterOfSquares() {
        says("Terms, 7: over the greater of the two sums of squares");
        due("1 and 2", limitOfTurn(step(1, 0, 0), 99998, step(1, 1, 0), 99998), 49999);
        due("2 and 1", limitOfTurn(step(1, 1, 0), 99998, step(1, 0, 0), 99998), 49999);
        due("1 and 3", limitOfTurn(step(0, 1, 0), 99999, step(-1, 1, 1), 99999), 33333);
        due("3 and 1", limitOfTurn(step(-1, 1, 1), 99999, step(0, 1, 0), 99999), 33333);
        due("2 and 3", limitOfTurn(step(0, 1, 1), 99999, step(1, 1, 1), 99999), 66666);
        due("3 and 2", limitOfTurn(step(1, 1, 1), 99999, step(0, 1, 1), 99999), 66666);
        due("2 and 2", limitOfTurn(step(0, 1, 1), 99998, step(1, 1, 0), 99998), 49999);
    }

    private static void limitIsCut() {
        says("Terms, 7: the limit (cut)");
        due("1 / 2", limitOfTurn(step(1, 0, 0), 1, step(1, 1, 0), 1), 0);
        due("2 / 2", limitOfTurn(step(1, 0, 0), 2, step(1, 1, 0), 2), 1);
        due("1 / 3", limitOfTurn(step(1, 0, 0), 1, step(1, 1, 1), 1), 0);
        due("2 / 3", limitOfTurn(step(1, 0, 0), 2, step(1, 1, 1), 2), 0);
        due("3 / 3", limitOfTurn(step(1, 0, 0), 3, step(1, 1, 1), 3), 1);
        due("1 * 2 / 3", limitOfTurn(step(1, 1, 0), 1, step(1, 1, 1), 1), 0);
        due("2 * 2 / 3", limitOfTurn(step(1, 1, 0), 2, step(1, 1, 1), 2), 1);
        due("99998 * 2 / 3", limitOfTurn(step(1, 1, 0), 99998, step(1, 1, 1), 99998), 66665);
        due("99997 * 2 / 3", limitOfTurn(step(1, 1, 0), 99997, step(1, 1, 1), 99997), 66664);
        due("99999 / 2", limitOfTurn(step(1, 0, 0), 99999, step(1, 1, 0), 99999), 49999);
    }

    private static void speedsNotAboveLimits() {
        says("Terms, 8: not above the limits");
        dueSpeeds(new SpeedRows(), 0);
        dueSpeeds(along(10000, 100000, 99999), 0, 0);
        dueSpeeds(straight(3, 100, 140), 0, 140, 140, 0);
        dueSpeeds(straight(3, 100, 141), 0, 141, 141, 0);
        dueSpeeds(straight(3, 100, 142), 0, 141, 141, 0);
        dueSpeeds(straight(3, 100000, 1), 0, 1, 1, 0);
    }

    private static void squaresForth() {
        says("Terms, 8: v^2 not above w^2 + 2 A N, v after w");
        dueSpeeds(along(1, 8, 99, 900, 99), 0, 4, 0);
        dueSpeeds(along(1, 7, 99, 900, 99), 0, 3, 0);
        dueSpeeds(along(1, 900, 3, 8, 99, 900, 99), 0, 3, 5, 0);
        dueSpeeds(along(1, 900, 3, 7, 99, 900, 99), 0, 3, 4, 0);
        dueSpeeds(along(1, 900, 3, 9, 99, 900, 99), 0, 3, 5, 0);
        dueSpeeds(along(1, 1, 99, 1, 99, 900, 99), 0, 1, 1, 0);
        dueSpeeds(along(8, 1, 99, 1, 99, 900, 99), 0, 4, 5, 0);
    }

    private static void squaresBack() {
        says("Terms, 8: v^2 not above w^2 + 2 A N, v before w");
        dueSpeeds(along(1, 900, 99, 8, 99), 0, 4, 0);
        dueSpeeds(along(1, 900, 99, 7, 99), 0, 3, 0);
        dueSpeeds(along(1, 900, 99, 8, 99, 900, 3), 0, 5, 3, 0);
        dueSpeeds(along(1, 900, 99, 7, 99, 900, 3), 0, 4, 3, 0);
        dueSpeeds(along(1, 900, 99, 9, 99, 900, 3), 0, 5, 3, 0);
        dueSpeeds(along(1, 900, 99, 1, 99, 1, 99), 0, 1, 1, 0);
        dueSpeeds(along(8, 900, 99, 1, 99, 1, 99), 0, 5, 4, 0);
    }

    private static void limitOfNone() {
        says("Terms, 8: a corner with limit 0 within the path");
        SpeedRows rows = along(1, 900, 99, 8, 99);
        due("first(-1, 0, 0)", one(rows.first(-1, 0, 0)), 1);
        due("move", rows.move(7, 99), 3);
        due("first(1, 0, 0)", one(rows.first(1, 0, 0)), 1);
        due("move", rows.move(900, 99), 4);
        dueLimits(rows, 0, 99, 0, 99, 0);
        dueSpeeds(rows, 0, 4, 0, 3, 0);
        due("below()", rows.below(), 2);
    }

    private static void greatestSpeeds() {
        says("Terms, 8: the greatest numbers that there can be");
        SpeedRows rows = new SpeedRows();
        due("acceleration(10000)", one(rows.acceleration(10000)), 1);
        for (int i = 1; i <= 14; i++) {
            due("move", rows.move(100000, 99999), i);
        }
        dueSpeeds(rows, 0, 44721, 63245, 77459, 89442, 99999, 99999, 99999, 99999, 99999,
                89442, 77459, 63245, 44721, 0);
    }

    private static void sumAtTheEdges() {
        says("9: the sum at all corners: none, one move, and the greatest in 512 calls");
        due("none", new SpeedRows().sum(), 0);
        due("one move", straight(1, 100000, 99999).sum(), 0);
        due("two moves", straight(2, 100000, 1).sum(), 1);
        SpeedRows rows = new SpeedRows();
        due("acceleration(10000)", one(rows.acceleration(10000)), 1);
        for (int i = 1; i <= 510; i++) {
            due("move", rows.move(100000, 99999), i);
        }
        due("510 moves", rows.sum(), 2L * (44721 + 63245 + 77459 + 89442) + 501L * 99999);
        SpeedRows emptied = straight(3, 100, 500);
        due("three moves", emptied.sum(), 282);
        due("back(3)", emptied.back(3), 0);
        due("emptied", emptied.sum(), 0);
    }

    private static void belowAtTheEdges() {
        says("10: how many corners have a speed below their limit: equal is not below, one less is");
        due("none", new SpeedRows().below(), 0);
        due("one move", straight(1, 1, 99999).below(), 0);
        due("one less than can be", straight(3, 100, 140).below(), 0);
        due("equal", straight(3, 100, 141).below(), 0);
        due("one more than can be", straight(3, 100, 142).below(), 2);
        due("all within the path", straight(510, 1, 99999).below(), 509);
        SpeedRows emptied = straight(3, 100, 500);
        due("three moves", emptied.below(), 2);
        due("back(2)", emptied.back(2), 1);
        due("one left", emptied.below(), 0);
        due("back(1)", emptied.back(1), 0);
        due("emptied", emptied.below(), 0);
    }

    private static void pathsAndMoves() {
        atMost512Calls();
        newObject();
        stepsInside();
        firstAtFirst();
        firstOutside();
        firstAllZero();
        lastAtFirst();
        lastOutside();
        lastAllZero();
        moveCounts();
        ticks();
        feed();
        ticksAndFeed();
        atMost2000Moves();
        backNone();
        backBelowNone();
        backTooMany();
        backAll();
        backTakesTheLatest();
        backTakesMovesAlone();
        accelerationAtFirst();
        accelerationInside();
        accelerationOfMovesMade();
        accelerationOutside();
    }

    private static void limitsAndSpeeds() {
        noLimit();
        noSpeed();
        noCornerAfterBack();
        limitAtTheEnds();
        lesserFeed();
        greaterOfNoneAndProducts();
        greaterOfSquares();
        limitIsCut();
        speedsNotAboveLimits();
        squaresForth();
        squaresBack();
        limitOfNone();
        greatestSpeeds();
        sumAtTheEdges();
        belowAtTheEdges();
    }

    public static void main(String[] args) {
        pathsAndMoves();
        limitsAndSpeeds();
        System.out.println(sentences + " sentences, " + checked + " answers, " + wrong + " not as due");
        if (wrong != 0) {
            System.exit(1);
        }
    }
}
