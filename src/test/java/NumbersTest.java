/** Promises 14 to 20: compass, turn, check, reason, state, wave, restAt. */
public final class NumbersTest {
    private static final Due T = new Due();
    private static final int G = 1000000000;

    public static void main(String[] args) {
        compassAndTurn();
        latestThree();
        mean();
        rounding();
        check();
        reasons();
        lastThreeChecks();
        reasonSix();
        state();
        wave();
        everyCourse();
        restAt();
        T.end();
    }

    /** Errors below 1000 have no force, tilts stay, and the error moves by the tilt: so runs can be told by hand. */
    private static GyroTrainer still() {
        GyroTrainer x = new GyroTrainer();
        x.set(GyroTrainer.GAIN, 1);
        x.set(GyroTrainer.RATE, 1000);
        x.damp(0);
        x.set(GyroTrainer.WAIT, 0);
        x.set(GyroTrainer.NOISE, 0);
        x.line(0);
        return x;
    }

    /** Turning points with these errors at the minutes 1, 2, .. */
    private static GyroTrainer turned(int... errors) {
        GyroTrainer x = still();
        x.start(0, 1);
        x.pass(1);
        int tilt = -1;
        for (int error : errors) {
            x.start(error, tilt);
            T.due("a turning point", x.pass(1), 1);
            tilt = -tilt;
        }
        return x;
    }

    private static void observe(GyroTrainer x, int... differences) {
        for (int difference : differences) {
            x.start(100 * difference, 0);
            x.observe(0);
        }
    }

    private static void compassAndTurn() {
        GyroTrainer x = new GyroTrainer();
        int[] wrong = {-1, 11, Integer.MIN_VALUE, Integer.MAX_VALUE};
        for (int what : wrong) {
            T.due("compass " + what, x.compass(what), -2 - G);
            T.due("turn " + what, x.turn(what, 0), -1 - G);
            T.due("turn " + what + " with a wrong what: the point comes first", x.turn(what, 2), -1 - G);
        }
        x = turned(100);
        T.due("turn", x.turn(0, 0), 100);
        T.due("turn", x.turn(0, 1), 1);
        T.due("turn what 2", x.turn(0, 2), -2 - G);
        T.due("turn what -1", x.turn(0, -1), -2 - G);
        T.due("turn 1", x.turn(1, 0), -1 - G);
        T.due("turn -1", x.turn(-1, 0), -1 - G);
        T.due("turn 1 with a wrong what", x.turn(1, 2), -1 - G);
        T.due("one: no swing", x.compass(6), -6 - G);
        x = turned(100, -50);
        T.due("two: a swing", x.compass(6), -150);
        T.due("two: not settled", x.compass(4), -6 - G);
        T.due("two: no mean", x.compass(5), -6 - G);
        x = turned(100, -50, 70);
        T.due("three: swing", x.compass(6), 120);
        T.due("three: settled", x.compass(4), 17);
        T.due("three: mean", x.compass(5), 25);
        x = new GyroTrainer();
        x.start(1000, 2000);
        x.place(50);
        x.correct(-20, 10);
        x.guess(0);
        T.due("A", x.compass(0), 1000);
        T.due("T", x.compass(1), 2000);
        T.due("latitude", x.compass(8), 50000000);
        T.due("latitude that is set", x.compass(9), -20);
        T.due("faults", x.compass(10), x.compass(2));
    }

    private static void latestThree() {
        GyroTrainer x = turned(900, 800, 1, 2, 4);
        T.due("the latest three alone", x.compass(4), 2);
        T.due("their mean", x.compass(5), 1);
        T.due("their swing", x.compass(6), 2);
        x = turned(9, 9, 9, 9, 9, 9, 9, 9, 9, 9, 9, 9);
        T.due("settled behind many", x.compass(4), 9);
        T.due("turn 7", x.turn(7, 1), 5);
        T.due("turn 8", x.turn(8, 1), -1 - G);
        T.due("kept", x.state(13), 8);
        T.due("found", x.state(14), 12);
    }

    private static void mean() {
        GyroTrainer x = still();
        x.start(0, 1);
        x.pass(1);
        x.start(100, -10);
        x.pass(3);
        x.start(200, 20);
        x.pass(2);
        // Behind the minutes 2 to 6 the errors are 90, 80, 70, 220, 240.
        x.start(300, -1);
        x.pass(5);
        T.due("times", x.turn(2, 1), 1);
        T.due("times", x.turn(1, 1), 4);
        T.due("times", x.turn(0, 1), 6);
        T.due("mean", x.compass(5), 140);
        T.due("settled", x.compass(4), 200);
        x.start(-900, -1);
        x.pass(20);
        T.due("later minutes are nothing to the mean", x.compass(5), 140);
        GyroTrainer y = still();
        y.pass(600);
        y.start(0, 1);
        y.pass(1);
        for (int i = 0; i < 3; i++) {
            y.start(900000, i % 2 == 0 ? -100000 : 100000);
            y.pass(1);
        }
        // Behind the minutes between them: 900000 - 100900 and 900000 + 99100.
        T.due("mean of great errors", y.compass(5), 899100);
        T.due("settled by great errors", y.compass(4), 900000);
    }

    private static void rounding() {
        GyroTrainer x = turned(-3, 0, -4);
        T.due("settled is rounded toward 0", x.compass(4), -1);
        T.due("mean is rounded toward 0", x.compass(5), -1);
        x = turned(3, 0, 4);
        T.due("settled is rounded toward 0", x.compass(4), 1);
        T.due("mean is rounded toward 0", x.compass(5), 1);
        x = turned(0, 3, 1);
        T.due("the second one counts twice", x.compass(4), 1);
    }

    private static void check() {
        GyroTrainer x = still();
        T.due("no check", x.check(0), -1 - G);
        observe(x, 1, -2, 3, 4, 5, 7);
        int[] checks = {7, 5, 4, 3, -2};
        for (int i = 0; i < 5; i++) {
            T.due("check " + i, x.check(i), checks[i]);
        }
        int[] wrong = {-1, 5, Integer.MIN_VALUE, Integer.MAX_VALUE};
        for (int index : wrong) {
            T.due("check " + index, x.check(index), -1 - G);
        }
        T.due("sum of those that are kept", x.compass(7), 17);
        T.due("kept", x.state(15), 5);
        T.due("all", x.state(16), 6);
    }

    private static void reasons() {
        T.due("two turning points", turned(0, 0).reason(), 1);
        GyroTrainer x = turned(900, 0, 11);
        x.set(GyroTrainer.AGREE, 0);
        x.set(GyroTrainer.TOLERANCE, 0);
        x.set(GyroTrainer.SWING, 10);
        T.due("too great a swing", x.reason(), 2);
        x.set(GyroTrainer.SWING, 11);
        T.due("the swing is just allowed", x.reason(), 3);
        x = turned(0, 11, 0);
        x.set(GyroTrainer.SWING, 10);
        T.due("too great a swing below", x.reason(), 2);
        x = turned(100, 0, 0);
        // Settled at 25 by turning points, at 50 by the mean.
        x.set(GyroTrainer.AGREE, 24);
        x.set(GyroTrainer.TOLERANCE, 0);
        T.due("they differ by too much", x.reason(), 3);
        x.set(GyroTrainer.AGREE, 25);
        T.due("they differ by just what is allowed", x.reason(), 4);
        observe(x, 9, 9);
        T.due("two checks", x.reason(), 4);
        observe(x, 10);
        x.set(GyroTrainer.TOLERANCE, 874);
        T.due("the checks differ by too much", x.reason(), 5);
        x.set(GyroTrainer.TOLERANCE, 875);
        T.due("the checks differ by just what is allowed", x.reason(), 7);
        x.damp(1);
        T.due("no reason", x.reason(), 0);
        x.forgetSwings();
        T.due("forgotten", x.reason(), 1);
        x = turned(-100, 0, 0);
        x.set(GyroTrainer.AGREE, 24);
        T.due("they differ the other way", x.reason(), 3);
    }

    private static void lastThreeChecks() {
        GyroTrainer x = turned(0, 0, 0);
        x.set(GyroTrainer.TOLERANCE, 100);
        observe(x, 9, 9, -1, -1, -2);
        T.due("the last three, rounded toward 0", x.reason(), 7);
        x.set(GyroTrainer.TOLERANCE, 99);
        T.due("100 is too much", x.reason(), 5);
        observe(x, 4);
        T.due("a third is nothing", x.reason(), 7);
        observe(x, 9);
        T.due("behind one more", x.reason(), 5);
        observe(x, 900, 0, 0, 0);
        T.due("the fourth one is nothing", x.reason(), 7);
    }

    private static void reasonSix() {
        GyroTrainer x = turned(200, 200, 200);
        observe(x, 2, 2, 2);
        x.set(GyroTrainer.TOLERANCE, 199);
        T.due("settled too far", x.reason(), 6);
        x.set(GyroTrainer.TOLERANCE, 200);
        T.due("settled just not too far", x.reason(), 7);
        x = turned(-200, -200, -200);
        observe(x, -2, -2, -2);
        x.set(GyroTrainer.TOLERANCE, 199);
        x.damp(4);
        T.due("settled too far below", x.reason(), 6);
        x.set(GyroTrainer.TOLERANCE, 200);
        T.due("no reason", x.reason(), 0);
    }

    private static void state() {
        GyroTrainer x = new GyroTrainer();
        int[] wrong = {-1, 31, Integer.MIN_VALUE, Integer.MAX_VALUE};
        for (int what : wrong) {
            T.due("state " + what, x.state(what), -2);
        }
        for (int i = 0; i < 9; i++) {
            x.set(i, 30 + i);
        }
        x.line(5);
        x.line(6);
        x.observe(0);
        x.guess(1);
        x.guess(2);
        x.guess(3);
        x.correct(10, 77);
        x.put('c');
        x.leg(100, 20, 30);
        x.leg(200, 30, 40);
        x.pass(7);
        x.damp(3);
        x.pass(5);
        int[] due = {12, 100, 20, 2, 18, 240, 3, 5, 0, 0, 7, 5, 0};
        for (int what = 0; what < due.length; what++) {
            T.due("state " + what, x.state(what), due[what]);
        }
        int[] last = {1, 1, 3, 77, 2, 1, 6};
        for (int i = 0; i < last.length; i++) {
            T.due("state " + (15 + i), x.state(15 + i), last[i]);
        }
        int[] settings = {30, 31, 32, 33, 34, 35, 36, (75 * 37 + 74) % 65537, 38};
        for (int i = 0; i < settings.length; i++) {
            T.due("state " + (22 + i), x.state(22 + i), settings[i]);
        }
        T.due("looking is no change", x.state(21), 6);
    }

    private static void wave() {
        GyroTrainer x = new GyroTrainer();
        int[][] due = {{0, 0, 1000000}, {1, 177, 999999}, {3000, 500000, 864864}, {4500, 705882, 705882},
            {9000, 1000000, 0}, {13500, 705882, -705882}, {17999, 177, -999999}, {18000, 0, -1000000},
            {18001, -177, -999999}, {22500, -705882, -705882}, {27000, -1000000, 0}, {35999, -177, 999999}};
        for (int[] d : due) {
            T.due("sine of " + d[0], x.wave(d[0], 0), d[1]);
            T.due("cosine of " + d[0], x.wave(d[0], 1), d[2]);
        }
        int[][] wrong = {{-1, 0}, {36000, 0}, {0, -1}, {0, 2}, {Integer.MIN_VALUE, 0}, {0, Integer.MAX_VALUE}};
        for (int[] w : wrong) {
            T.due("wave " + w[0] + " " + w[1], x.wave(w[0], w[1]), -2 - G);
        }
    }

    private static void everyCourse() {
        GyroTrainer x = new GyroTrainer();
        for (int course = 0; course < 36000; course++) {
            if (course % 200 == 0) {
                x = new GyroTrainer();
            }
            T.due("sine of " + course, x.wave(course, 0), sineOf(course));
            T.due("cosine of " + course, x.wave(course, 1), sineOf((course + 9000) % 36000));
        }
    }

    private static long sineOf(int course) {
        long u = course % 18000L * (18000 - course % 18000);
        return (course < 18000 ? 4000000 : -4000000) * u / (405000000 - u);
    }

    private static void restAt() {
        GyroTrainer x = new GyroTrainer();
        int[][] due = {{70, 400, 0, -33555}, {-70, 400, 0, -115645}, {70, 400, 18000, 115645}, {1, 1, 0, 202},
            {-33, 7, 13500, -9372}, {0, 400, 9000, 0}, {45, 3, 22500, 15192}, {0, 0, 0, 0}};
        for (int[] d : due) {
            T.due("restAt " + d[0] + " " + d[1] + " " + d[2], x.restAt(d[0], d[1], d[2]), d[3]);
        }
        int[][] wrong = {{71, 0, 0}, {-71, 0, 0}, {0, -1, 0}, {0, 401, 0}, {0, 0, -1}, {0, 0, 36000},
            {Integer.MIN_VALUE, 0, 0}};
        for (int[] w : wrong) {
            T.due("restAt " + w[0] + " " + w[1] + " " + w[2], x.restAt(w[0], w[1], w[2]), -2 - G);
        }
        x.correct(50, 100);
        T.due("correctors are nothing to it", x.restAt(1, 1, 0), 202);
        x.set(GyroTrainer.LATE, 30000);
        T.due("what is late counts", x.restAt(70, 0, 0), 82091);
        x.set(GyroTrainer.LATE, 0);
        T.due("the speed alone", x.restAt(60, 100, 4500), -9035);
        T.due("looking is no change", x.state(21), 3);
    }
}
