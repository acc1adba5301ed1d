/** Promises 6 to 8: steer, leg, pass, with what a minute does. */
public final class VoyageTest {
    private static final Due T = new Due();

    public static void main(String[] args) {
        steer();
        leg();
        legsInTheirOrder();
        wrongMinutes();
        mostTime();
        latitudeAndWay();
        tiltAndError();
        quotientsAreRoundedOneByOne();
        limits();
        restInAMinute();
        turningPoints();
        T.end();
    }

    /** Errors below 1000 have no force, tilts stay, and the error moves by the tilt: so runs can be told by hand. */
    private static GyroTrainer still() {
        GyroTrainer x = new GyroTrainer();
        x.set(GyroTrainer.GAIN, 1);
        x.set(GyroTrainer.RATE, 1000);
        x.damp(0);
        return x;
    }

    private static void steer() {
        GyroTrainer x = new GyroTrainer();
        T.due("steer", x.steer(35999, 400), 0);
        T.due("course", x.state(1), 35999);
        T.due("speed", x.state(2), 400);
        int[][] wrong = {{-1, 0}, {36000, 0}, {0, -1}, {0, 401}, {Integer.MIN_VALUE, 0}, {0, Integer.MAX_VALUE}};
        for (int[] w : wrong) {
            T.due("steer " + w[0] + " " + w[1], x.steer(w[0], w[1]), -2);
        }
        T.due("course stays", x.state(1), 35999);
        T.due("speed stays", x.state(2), 400);
        T.due("one change", x.state(21), 1);
        x.leg(1, 2, 3);
        x.leg(4, 5, 6);
        T.due("steer drops legs", x.steer(0, 0), 2);
        T.due("legs", x.state(3), 0);
        T.due("minutes left", x.state(4), 0);
        T.due("course", x.state(1), 0);
        T.due("speed", x.state(2), 0);
        x.steer(18000, 100);
        x.pass(10);
        T.due("what is steered goes on", x.state(2), 100);
        T.due("way", x.state(5), 1000);
    }

    private static void leg() {
        GyroTrainer x = new GyroTrainer();
        int[][] wrong = {{-1, 0, 1}, {36000, 0, 1}, {0, -1, 1}, {0, 401, 1}, {0, 0, 0}, {0, 0, 601}, {0, 0, -1}};
        for (int[] w : wrong) {
            T.due("leg " + w[0] + " " + w[1] + " " + w[2], x.leg(w[0], w[1], w[2]), -2);
        }
        T.due("no legs", x.state(3), 0);
        T.due("no change", x.state(21), 0);
        T.due("leg", x.leg(35999, 400, 600), 1);
        T.due("course at once", x.state(1), 35999);
        T.due("speed at once", x.state(2), 400);
        T.due("minutes left", x.state(4), 600);
        for (int i = 2; i <= 8; i++) {
            T.due("leg " + i, x.leg(0, 0, 1), i);
        }
        T.due("the first one is sailed", x.state(1), 35999);
        T.due("a ninth leg", x.leg(0, 0, 1), -4);
        T.due("a wrong ninth leg: the value comes first", x.leg(0, 0, 0), -2);
        T.due("legs", x.state(3), 8);
    }

    private static void legsInTheirOrder() {
        GyroTrainer x = new GyroTrainer();
        x.leg(100, 10, 2);
        x.leg(200, 20, 1);
        x.leg(300, 30, 2);
        int[][] due = {{100, 10, 3, 1}, {200, 20, 2, 1}, {300, 30, 1, 2}, {300, 30, 1, 1}, {300, 0, 0, 0}, {300, 0, 0, 0}};
        int[] way = {10, 20, 40, 70, 100, 100};
        for (int minute = 0; minute < due.length; minute++) {
            x.pass(1);
            for (int i = 0; i < 4; i++) {
                T.due("behind minute " + minute + ": state " + (i + 1), x.state(i + 1), due[minute][i]);
            }
            T.due("way", x.state(5), way[minute]);
        }
        T.due("a new leg is sailed at once", x.leg(7, 8, 9), 1);
        T.due("course", x.state(1), 7);
        T.due("speed", x.state(2), 8);
    }

    private static void wrongMinutes() {
        GyroTrainer x = new GyroTrainer();
        int[] wrong = {0, -1, 601, Integer.MIN_VALUE, Integer.MAX_VALUE};
        for (int minutes : wrong) {
            T.due("pass " + minutes, x.pass(minutes), -2);
        }
        T.due("time", x.state(0), 0);
        T.due("no change", x.state(21), 0);
        T.due("pass", x.pass(600), 0);
        T.due("time", x.state(0), 600);
        T.due("minutes at level 2", x.state(10), 600);
        T.due("one change", x.state(21), 1);
    }

    private static void mostTime() {
        GyroTrainer x = new GyroTrainer();
        for (int i = 0; i < 166; i++) {
            T.due("pass 600", x.pass(600), 0);
        }
        T.due("one minute too much", x.pass(401), -5);
        T.due("wrong minutes: the value comes first", x.pass(601), -2);
        T.due("time", x.state(0), 99600);
        T.due("up to the greatest time", x.pass(400), 0);
        T.due("time", x.state(0), 100000);
        T.due("no minute more", x.pass(1), -5);
        T.due("wrong minutes: the value comes first", x.pass(0), -2);
        T.due("minutes at level 2", x.state(10), 100000);
        x.start(0, 101);
        x.set(GyroTrainer.RATE, 1);
        T.due("a forecast behind the greatest time", x.calmIn(100, 5), 1);
        x.undo();
        x.undo();
        T.due("undone", x.undo(), 3);
        T.due("time may pass again", x.pass(400), 0);
    }

    private static void latitudeAndWay() {
        int[][] cases = {{0, 1, 28}, {18000, 1, -28}, {9000, 400, 0}, {27000, 400, 0}, {4500, 1, 19}, {13500, 1, -19},
            {22500, 3, -59}, {31500, 3, 59}, {0, 400, 11200}, {0, 0, 0}};
        for (int[] c : cases) {
            GyroTrainer x = new GyroTrainer();
            x.steer(c[0], c[1]);
            x.pass(1);
            T.due("latitude with " + c[0] + " " + c[1], x.compass(8), c[2]);
            x.pass(2);
            T.due("latitude behind three minutes", x.compass(8), 3L * c[2]);
            T.due("way", x.state(5), 3L * c[1]);
        }
        GyroTrainer x = new GyroTrainer();
        x.place(70);
        x.steer(0, 400);
        x.pass(2);
        T.due("the north has an end", x.compass(8), 70000000);
        x.steer(18000, 400);
        x.pass(1);
        T.due("back to the south", x.compass(8), 69988800);
        x.steer(0, 399);
        x.pass(1);
        T.due("just not the end", x.compass(8), 69999972);
        x.pass(1);
        T.due("the end", x.compass(8), 70000000);
        x.place(-70);
        x.steer(18000, 1);
        x.pass(1);
        T.due("the south has an end", x.compass(8), -70000000);
        T.due("the way counts there, too", x.state(5), 400 * 3 + 399 * 2 + 1);
    }

    private static void tiltAndError() {
        // 20 * 100000 / 1000 = 2000; damping takes a D-th part of the tilt of then.
        int[] tilts = {-2000, -1980, -1960, -1920, -1840};
        for (int level = 0; level < 5; level++) {
            GyroTrainer x = new GyroTrainer();
            x.damp(level);
            x.start(100000, 0);
            T.due("pass", x.pass(1), 0);
            T.due("tilt at level " + level, x.compass(1), tilts[level]);
            T.due("error at level " + level, x.compass(0), 100000 + tilts[level] / 4);
            T.due("direction", x.compass(3), -1);
            T.due("minutes at it", x.state(8 + level), 1);
        }
        GyroTrainer x = new GyroTrainer();
        x.set(GyroTrainer.GAIN, 7);
        x.set(GyroTrainer.RATE, 333);
        x.start(-12345, 1234);
        x.pass(1);
        // 7 * -12345 / 1000 = -86; 1234 + 86 = 1320, less 26; 333 * 1294 / 1000 = 430.
        T.due("tilt", x.compass(1), 1294);
        T.due("error", x.compass(0), -11915);
        T.due("direction", x.compass(3), 1);
    }

    private static void quotientsAreRoundedOneByOne() {
        GyroTrainer x = new GyroTrainer();
        x.set(GyroTrainer.GAIN, 1);
        x.damp(0);
        x.place(59);
        x.correct(59, 0);
        // 3999 / 1000 = 3, 3 * 514924 / 1000000 = 1; in one quotient it would be 2.
        x.start(3999, 0);
        x.pass(1);
        T.due("tilt", x.compass(1), -1);
        T.due("error: a quarter is nothing", x.compass(0), 3999);
        T.due("no direction, since the error is the same", x.compass(3), 0);
        x.start(-3999, 0);
        x.pass(1);
        T.due("rounded toward 0", x.compass(1), 1);
    }

    private static void limits() {
        GyroTrainer x = new GyroTrainer();
        x.set(GyroTrainer.GAIN, 100);
        x.set(GyroTrainer.RATE, 1);
        x.damp(0);
        x.set(GyroTrainer.WAIT, 0);
        x.start(900000, -100000);
        x.pass(8);
        T.due("tilt ahead of its limit", x.compass(1), -818964);
        x.pass(1);
        T.due("tilt at its limit", x.compass(1), -900000);
        x.damp(4);
        x.pass(1);
        T.due("limited behind both decreases", x.compass(1), -900000);
        x.damp(0);
        x.set(GyroTrainer.RATE, 1000);
        x.set(GyroTrainer.GAIN, 1);
        x.start(-900000, -100000);
        for (int i = 0; i < 10; i++) {
            x.pass(1);
        }
        T.due("error at its limit", x.compass(0), -1800000);
        T.due("the tilt goes on", x.compass(1), -86684);
        T.due("direction", x.compass(3), -1);
        x.start(900000, 100000);
        T.due("one turning point", x.pass(10), 1);
        T.due("it is where the error was put", x.turn(0, 0), 900000);
        T.due("error at its other limit", x.compass(0), 1800000);
        T.due("tilt", x.compass(1), 86684);
    }

    private static void restInAMinute() {
        GyroTrainer x = still();
        x.set(GyroTrainer.GAIN, 10);
        x.steer(18000, 100);
        // R is 6400, so the force is 10 * -6400 / 1000.
        x.pass(1);
        T.due("tilt", x.compass(1), 64);
        T.due("error", x.compass(0), 64);
        GyroTrainer y = still();
        y.set(GyroTrainer.GAIN, 10);
        y.leg(0, 0, 1);
        y.leg(18000, 100, 5);
        y.pass(1);
        T.due("the first leg has no speed", y.compass(1), 0);
        T.due("the second one is sailed at once", y.compass(2), 6400);
        y.pass(1);
        T.due("tilt in the second leg", y.compass(1), 64);
    }

    private static void turningPoints() {
        GyroTrainer x = still();
        x.start(0, 5);
        T.due("the first direction makes none", x.pass(3), 0);
        T.due("error", x.compass(0), 15);
        T.due("direction", x.compass(3), 1);
        x.start(700, -2);
        T.due("start does not change the direction", x.compass(3), 1);
        T.due("a turning point", x.pass(2), 1);
        T.due("its error", x.turn(0, 0), 700);
        T.due("its time is ahead of the minute", x.turn(0, 1), 3);
        T.due("direction", x.compass(3), -1);
        x.start(300, 0);
        T.due("the error stays", x.pass(4), 0);
        T.due("the direction, too", x.compass(3), -1);
        x.start(300, -1);
        T.due("the same direction behind a rest", x.pass(1), 0);
        x.start(200, 0);
        x.pass(1);
        x.start(200, 1);
        T.due("the other direction behind a rest", x.pass(1), 1);
        T.due("its error", x.turn(0, 0), 200);
        T.due("its time", x.turn(0, 1), 11);
        T.due("the first one is still kept", x.turn(1, 0), 700);
        T.due("found", x.state(14), 2);
        for (int i = 0; i < 8; i++) {
            x.start(i, i % 2 == 0 ? -1 : 1);
            T.due("one more", x.pass(1), 1);
        }
        T.due("kept", x.state(13), 8);
        T.due("found", x.state(14), 10);
        for (int i = 0; i < 8; i++) {
            T.due("error of " + i, x.turn(i, 0), 7 - i);
            T.due("time of " + i, x.turn(i, 1), 19 - i);
        }
        GyroTrainer y = new GyroTrainer();
        y.set(GyroTrainer.GAIN, 100);
        y.set(GyroTrainer.RATE, 1000);
        y.damp(0);
        y.start(100000, 0);
        T.due("many in one call", y.pass(100), 10);
    }
}
