/**
 * Sentences of the document that name no boundary case, a test each, in the document's order:
 * whose numbers count where, and what a call leaves as it is. Each test begins with the sentence.
 */
public final class SentenceTests {
    private static String sentence = "";
    private static int sentences = 0;
    private static int checked = 0;
    private static int wrong = 0;

    private interface Call {
        long on(SpeedRows rows);
    }

    // Each question is asked of corners within the path, at its ends and outside it.
    private static final Call[] QUESTIONS = {
        rows -> rows.limit(1), rows -> rows.limit(2), rows -> rows.limit(0), rows -> rows.limit(99),
        rows -> rows.speed(1), rows -> rows.speed(2), rows -> rows.speed(0), rows -> rows.speed(99),
        rows -> rows.sum(), rows -> rows.below()};

    // A run that changes all there is to change; every answer is a number.
    private static final Call[] CHANGES = {
        rows -> one(rows.last(1, 1, 0)), rows -> rows.move(40, 900), rows -> one(rows.first(0, 1, 1)),
        rows -> rows.move(25, 700), rows -> one(rows.acceleration(30)), rows -> one(rows.last(0, 1, 0)),
        rows -> rows.move(60, 800), rows -> rows.back(1), rows -> rows.move(10, 650),
        rows -> one(rows.first(1, 1, 1)), rows -> rows.move(90, 640), rows -> one(rows.acceleration(2000)),
        rows -> rows.back(2), rows -> rows.move(5, 30), rows -> rows.move(70, 990), rows -> rows.back(4),
        rows -> rows.move(11, 77), rows -> rows.move(12, 78)};

    private static void says(String words) {
        sentence = words;
        sentences++;
    }

    private static void due(String call, long got, long want) {
        checked++;
        if (got != want) {
            wrong++;
            System.out.println(sentence + ": " + call + " answered " + got + ", due is " + want);
        }
    }

    private static long one(boolean answer) {
        return answer ? 1 : 0;
    }

    private static void tellFirst(SpeedRows rows, int x, int y, int z) {
        due("first(" + x + ", " + y + ", " + z + ")", one(rows.first(x, y, z)), 1);
    }

    private static void tellLast(SpeedRows rows, int x, int y, int z) {
        due("last(" + x + ", " + y + ", " + z + ")", one(rows.last(x, y, z)), 1);
    }

    private static void tellAcceleration(SpeedRows rows, int a) {
        due("acceleration(" + a + ")", one(rows.acceleration(a)), 1);
    }

    private static void addMoves(SpeedRows rows, int... ticksAndFeeds) {
        int before = rows.back(0);
        for (int i = 0; i < ticksAndFeeds.length; i += 2) {
            int n = ticksAndFeeds[i];
            int feed = ticksAndFeeds[i + 1];
            due("move(" + n + ", " + feed + ")", rows.move(n, feed), before + i / 2 + 1);
        }
    }

    private static void dueLimits(SpeedRows rows, int... want) {
        for (int k = 0; k < want.length; k++) {
            due("limit(" + k + ")", rows.limit(k), want[k]);
        }
        due("limit(" + want.length + ")", rows.limit(want.length), -1);
    }

    private static void dueSpeeds(SpeedRows rows, int... want) {
        for (int k = 0; k < want.length; k++) {
            due("speed(" + k + ")", rows.speed(k), want[k]);
        }
        due("speed(" + want.length + ")", rows.speed(want.length), -1);
    }

    /** The speeds hold all that is asked of them, and none can be one greater beside the others. */
    private static void dueGreatest(SpeedRows rows, long a, long... ticks) {
        for (int k = 0; k <= ticks.length; k++) {
            long speed = rows.speed(k);
            boolean raised = speed + 1 <= rows.limit(k);
            due("speed(" + k + ") above the limit", one(speed > rows.limit(k)), 0);
            for (int move = Math.max(0, k - 1); move <= Math.min(k, ticks.length - 1); move++) {
                long other = rows.speed(move == k ? k + 1 : k - 1);
                long most = other * other + 2 * a * ticks[move];
                due("speed(" + k + ") above what move " + move + " allows", one(speed * speed > most), 0);
                raised &= (speed + 1) * (speed + 1) <= most;
            }
            due("speed(" + k + ") could be greater", one(raised), 0);
        }
    }

    private static void greatest() {
        says("What it is: the greatest that limits and the acceleration allow");
        SpeedRows rows = new SpeedRows();
        addMoves(rows, 3, 400, 900, 90, 7, 300, 20, 310, 1, 95, 4, 700, 300, 710, 2, 20, 8, 720);
        dueSpeeds(rows, 0, 24, 90, 97, 95, 95, 99, 20, 20, 0);
        dueGreatest(rows, 100, 3, 900, 7, 20, 1, 4, 300, 2, 8);
        tellAcceleration(rows, 3);
        dueGreatest(rows, 3, 3, 900, 7, 20, 1, 4, 300, 2, 8);
        tellAcceleration(rows, 9000);
        dueGreatest(rows, 9000, 3, 900, 7, 20, 1, 4, 300, 2, 8);
    }

    private static void eachMoveItsOwnFeed() {
        says("Terms: each move has a feed; corner k is between move k - 1 and move k");
        SpeedRows rows = new SpeedRows();
        addMoves(rows, 9, 80, 9, 60, 9, 70, 9, 75, 9, 20, 9, 90);
        dueLimits(rows, 0, 60, 60, 70, 20, 20, 0);
    }

    private static void eachMoveItsOwnTicks() {
        says("Terms: each move has N ticks; they count between its own two corners");
        SpeedRows rows = new SpeedRows();
        addMoves(rows, 2, 999, 8, 999, 50, 999, 18, 999);
        dueSpeeds(rows, 0, 20, 44, 60, 0);
        due("back(4)", rows.back(4), 0);
        addMoves(rows, 18, 999, 50, 999, 8, 999, 2, 999);
        dueSpeeds(rows, 0, 60, 44, 20, 0);
    }

    private static void lastOfTheOneFirstOfTheNext() {
        says("Terms: the last step of the one and the first step of the next");
        SpeedRows rows = new SpeedRows();
        tellFirst(rows, 0, 0, 1);
        tellLast(rows, 0, 1, 0);
        addMoves(rows, 5, 600);
        tellFirst(rows, 0, 1, 1);
        tellLast(rows, 1, 0, 0);
        addMoves(rows, 5, 600);
        tellFirst(rows, 1, 1, 1);
        tellLast(rows, 0, 0, -1);
        addMoves(rows, 5, 600);
        tellFirst(rows, 0, 0, -1);
        tellLast(rows, -1, 0, 0);
        addMoves(rows, 5, 600);
        dueLimits(rows, 0, 300, 200, 600, 0);
    }

    private static void twoEndsOfOneMove() {
        says("Terms: any two corners at the two ends of a move, not of two moves");
        SpeedRows rows = new SpeedRows();
        tellAcceleration(rows, 1);
        addMoves(rows, 8, 99, 8, 99, 8, 99, 8, 99);
        dueSpeeds(rows, 0, 4, 5, 4, 0);
    }

    private static void newObjects() {
        says("1: no moves, whatever other objects have");
        SpeedRows[] objects = new SpeedRows[4];
        for (int i = 0; i < objects.length; i++) {
            objects[i] = new SpeedRows();
        }
        long[][] alone = new long[objects.length][CHANGES.length * 2];
        for (int i = 0; i < objects.length; i++) {
            run(new SpeedRows(), i, alone[i]);
        }
        for (int at = 0; at < CHANGES.length; at++) {
            for (int i = 0; i < objects.length; i++) {
                due("change " + at + " of object " + i, change(objects[i], i, at), alone[i][2 * at]);
                due("sum() of object " + i, objects[i].sum(), alone[i][2 * at + 1]);
            }
        }
    }

    // Objects begin the run at different places, so that a state they shared would show.
    private static long change(SpeedRows rows, int object, int at) {
        return CHANGES[(at + 5 * object) % CHANGES.length].on(rows);
    }

    private static void run(SpeedRows rows, int object, long[] answers) {
        for (int at = 0; at < CHANGES.length; at++) {
            answers[2 * at] = change(rows, object, at);
            answers[2 * at + 1] = rows.sum();
        }
    }

    private static void stepsToldAgain() {
        says("2, 3: the step told latest is the next move's");
        SpeedRows rows = new SpeedRows();
        tellLast(rows, -1, -1, -1);
        tellLast(rows, 0, 1, 1);
        addMoves(rows, 5, 600);
        tellFirst(rows, 0, -1, -1);
        tellFirst(rows, 1, 1, 0);
        tellFirst(rows, 0, 1, 0);
        tellLast(rows, 1, 0, 0);
        addMoves(rows, 5, 600);
        tellFirst(rows, 1, 0, 0);
        addMoves(rows, 5, 600);
        dueLimits(rows, 0, 300, 600, 0);
    }

    private static void stepsOfTheNextMove() {
        says("2, 3: a step of the next move, not of the moves that are there, and each kind by itself");
        SpeedRows rows = new SpeedRows();
        addMoves(rows, 50, 600, 50, 600);
        dueSpeeds(rows, 0, 100, 0);
        tellFirst(rows, -1, 0, 0);
        tellLast(rows, 0, 1, 0);
        dueLimits(rows, 0, 600, 0);
        dueSpeeds(rows, 0, 100, 0);
        tellFirst(rows, 1, 0, 0);
        addMoves(rows, 50, 600);
        dueLimits(rows, 0, 600, 600, 0);
        tellFirst(rows, 0, 1, 0);
        addMoves(rows, 50, 600);
        dueLimits(rows, 0, 600, 600, 600, 0);
        tellLast(rows, 1, 0, 0);
        tellFirst(rows, 1, 1, 0);
        addMoves(rows, 50, 600, 50, 600);
        dueLimits(rows, 0, 600, 600, 600, 300, 300, 0);
    }

    private static void stepOfTheBeginningAndTheEnd() {
        says("2, 3: the first step of the first move and the last step of the latest change no answer");
        for (int step = 0; step < 27; step++) {
            if (step == 13) {
                continue;
            }
            int x = step / 9 - 1;
            int y = step / 3 % 3 - 1;
            int z = step % 3 - 1;
            SpeedRows rows = new SpeedRows();
            tellFirst(rows, x, y, z);
            addMoves(rows, 50, 600);
            tellFirst(rows, 1, 0, 0);
            tellLast(rows, x, y, z);
            addMoves(rows, 50, 600);
            dueLimits(rows, 0, 600, 0);
            dueSpeeds(rows, 0, 100, 0);
        }
    }

    private static void oneMoreMove() {
        says("4: one more move: those before it stay, and the end is behind it");
        SpeedRows rows = new SpeedRows();
        addMoves(rows, 50, 600, 50, 40);
        dueLimits(rows, 0, 40, 0);
        addMoves(rows, 50, 500);
        dueLimits(rows, 0, 40, 40, 0);
        dueSpeeds(rows, 0, 40, 40, 0);
        addMoves(rows, 50, 700);
        dueLimits(rows, 0, 40, 40, 500, 0);
        dueSpeeds(rows, 0, 40, 40, 100, 0);
    }

    private static void theSameMovesAgain() {
        says("5: the latest n moves are taken away: the path is the one without them");
        for (int kept = 0; kept <= 5; kept++) {
            SpeedRows rows = new SpeedRows();
            SpeedRows never = new SpeedRows();
            for (int i = 0; i < 5; i++) {
                tellLast(rows, 1, i % 2, 1);
                addMoves(rows, 3 + 40 * i, 900 - 110 * i);
                if (i < kept) {
                    tellLast(never, 1, i % 2, 1);
                    addMoves(never, 3 + 40 * i, 900 - 110 * i);
                }
            }
            due("sum() of five", one(rows.sum() > 0), 1);
            due("back", rows.back(5 - kept), kept);
            tellLast(rows, 1, 1, 0);
            tellLast(never, 1, 1, 0);
            sameAnswers(rows, never);
            addMoves(rows, 33, 444, 55, 666);
            addMoves(never, 33, 444, 55, 666);
            sameAnswers(rows, never);
        }
    }

    private static void sameAnswers(SpeedRows rows, SpeedRows other) {
        int moves = other.back(0);
        for (int k = -1; k <= moves + 2; k++) {
            due("limit(" + k + ")", rows.limit(k), other.limit(k));
            due("speed(" + k + ")", rows.speed(k), other.speed(k));
        }
        due("sum()", rows.sum(), other.sum());
        due("below()", rows.below(), other.below());
    }

    private static void oneAcceleration() {
        says("6: the acceleration told latest counts, for all moves, whenever it is told");
        SpeedRows before = new SpeedRows();
        tellAcceleration(before, 9);
        tellAcceleration(before, 50);
        addMoves(before, 1, 600, 3, 600, 1, 600);
        dueSpeeds(before, 0, 10, 10, 0);
        SpeedRows between = new SpeedRows();
        addMoves(between, 1, 600);
        tellAcceleration(between, 50);
        addMoves(between, 3, 600, 1, 600);
        dueSpeeds(between, 0, 10, 10, 0);
        SpeedRows after = new SpeedRows();
        addMoves(after, 1, 600, 3, 600, 1, 600);
        tellAcceleration(after, 50);
        dueSpeeds(after, 0, 10, 10, 0);
        dueLimits(after, 0, 600, 600, 0);
    }

    private static void questionsChangeNothing() {
        says("7 to 10: questions change nothing, and answer the same when asked again");
        for (Call question : QUESTIONS) {
            SpeedRows asked = new SpeedRows();
            SpeedRows never = new SpeedRows();
            for (int at = 0; at < CHANGES.length; at++) {
                long answer = question.on(asked);
                due("the question again before change " + at, question.on(asked), answer);
                due("change " + at, CHANGES[at].on(asked), CHANGES[at].on(never));
            }
            sameAnswers(asked, never);
        }
    }

    private static void askedAtAnyTime() {
        says("7 to 10: what a question answers hangs on the path, not on what was asked before");
        for (int length = 0; length <= CHANGES.length; length++) {
            SpeedRows asked = new SpeedRows();
            for (int at = 0; at < length; at++) {
                sameAnswers(asked, asked);
                CHANGES[at].on(asked);
            }
            for (int q = 0; q < QUESTIONS.length; q++) {
                SpeedRows fresh = new SpeedRows();
                for (int at = 0; at < length; at++) {
                    CHANGES[at].on(fresh);
                }
                due("question " + q + " after " + length, QUESTIONS[q].on(asked), QUESTIONS[q].on(fresh));
            }
        }
    }

    private static void sumOfSpeeds() {
        says("9: the sum of the speeds, not of the limits, at all corners");
        SpeedRows rows = new SpeedRows();
        long[] sums = {0, 20, 40, 60, 80, 100, 120};
        addMoves(rows, 2, 600);
        for (int i = 0; i < sums.length; i++) {
            due("sum()", rows.sum(), sums[i]);
            addMoves(rows, 2, i < 1 ? 600 : 20);
        }
        long total = 0;
        for (int k = 0; k <= rows.back(0); k++) {
            total += rows.speed(k);
        }
        due("sum() beside the speeds", rows.sum(), total);
    }

    private static void cornersBelow() {
        says("10: how many corners, not by how much");
        SpeedRows rows = new SpeedRows();
        addMoves(rows, 1, 99999, 1, 99999, 50000, 3, 50000, 3, 1, 70, 1, 99999);
        dueLimits(rows, 0, 99999, 3, 3, 3, 70, 0);
        dueSpeeds(rows, 0, 14, 3, 3, 3, 14, 0);
        due("below()", rows.below(), 2);
    }

    public static void main(String[] args) {
        greatest();
        eachMoveItsOwnFeed();
        eachMoveItsOwnTicks();
        lastOfTheOneFirstOfTheNext();
        twoEndsOfOneMove();
        newObjects();
        stepsToldAgain();
        stepsOfTheNextMove();
        stepOfTheBeginningAndTheEnd();
        oneMoreMove();
        theSameMovesAgain();
        oneAcceleration();
        questionsChangeNothing();
        askedAtAnyTime();
        sumOfSpeeds();
        cornersBelow();
        System.out.println(sentences + " sentences, " + checked + " answers, " + wrong + " not as due");
        if (wrong != 0) {
            System.exit(1);
        }
    }
}
