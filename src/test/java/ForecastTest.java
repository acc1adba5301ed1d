/** Promises 21 and 22: calmIn, bestLevel. */
public final class ForecastTest {
    private static final Due T = new Due();

    public static void main(String[] args) {
        wrongValues();
        calmByError();
        calmByTilt();
        calmInALaterLeg();
        bestLevel();
        T.end();
    }

    private static void wrongValues() {
        GyroTrainer x = new GyroTrainer();
        int[][] wrong = {{-1, 1}, {100001, 1}, {0, 0}, {0, -1}, {0, 2001}, {Integer.MIN_VALUE, 1}, {0, Integer.MAX_VALUE}};
        for (int[] w : wrong) {
            T.due("calmIn " + w[0] + " " + w[1], x.calmIn(w[0], w[1]), -2);
            T.due("bestLevel " + w[0] + " " + w[1], x.bestLevel(w[0], w[1]), -2);
        }
        T.due("bestLevel 0 501", x.bestLevel(0, 501), -2);
        T.due("calmIn 100000 2000", x.calmIn(100000, 2000), 0);
        T.due("bestLevel 100000 500", x.bestLevel(100000, 500), 0);
        T.due("no change", x.state(21), 0);
    }

    private static void calmByError() {
        GyroTrainer x = new GyroTrainer();
        x.set(GyroTrainer.GAIN, 1);
        x.set(GyroTrainer.RATE, 1000);
        x.damp(0);
        // Without force and damping the error falls by 1 in a minute.
        x.start(500, -1);
        T.due("at once", x.calmIn(500, 1), 0);
        T.due("in a minute", x.calmIn(499, 1), 1);
        T.due("just in time", x.calmIn(100, 400), 400);
        T.due("just not in time", x.calmIn(100, 399), -6);
        T.due("the tilt is never calm", x.calmIn(0, 2000), -6);
        T.due("nothing has passed", x.state(0), 0);
        T.due("the error stays", x.compass(0), 500);
        T.due("no direction", x.compass(3), 0);
        x.start(-500, 1);
        T.due("from below", x.calmIn(100, 2000), 400);
        x.start(999, -1);
        T.due("far away", x.calmIn(1, 998), 998);
        x.correct(0, 400);
        x.start(25600, 0);
        T.due("calm is what is near R, not near 0", x.calmIn(0, 1), 0);
    }

    private static GyroTrainer tilted(int tilt) {
        GyroTrainer x = new GyroTrainer();
        x.set(GyroTrainer.GAIN, 1);
        x.set(GyroTrainer.RATE, 1);
        x.start(0, tilt);
        return x;
    }

    private static void calmByTilt() {
        T.due("105, 103, 101, 99", tilted(105).calmIn(100, 5), 3);
        T.due("also below 0", tilted(-105).calmIn(100, 5), 3);
        T.due("just at the bound", tilted(104).calmIn(100, 5), 2);
        T.due("at once", tilted(100).calmIn(100, 5), 0);
    }

    private static void calmInALaterLeg() {
        GyroTrainer x = tilted(0);
        x.leg(0, 0, 3);
        x.leg(18000, 100, 5);
        x.start(6400, 0);
        T.due("R is 6400 as soon as the second leg is sailed", x.calmIn(100, 10), 3);
        T.due("not before", x.calmIn(100, 2), -6);
        T.due("the legs stay", x.state(3), 2);
        T.due("the minutes, too", x.state(4), 3);
    }

    private static void bestLevel() {
        T.due("of several the lowest one", tilted(101).bestLevel(100, 1), 1);
        T.due("the soonest one", tilted(105).bestLevel(100, 500), 4);
        T.due("in time", tilted(105).bestLevel(100, 1), 4);
        T.due("sooner by one minute", tilted(105).bestLevel(100, 2), 4);
        T.due("level 3 would be too late", tilted(109).bestLevel(100, 1), -6);
        T.due("3 and 4 take as long", tilted(108).bestLevel(99, 2), 4);
        T.due("never", tilted(105).bestLevel(0, 500), -6);
        T.due("all are calm now", tilted(0).bestLevel(0, 1), 0);
        GyroTrainer x = tilted(105);
        x.damp(1);
        T.due("the wait does not matter", x.bestLevel(100, 3), 4);
        T.due("the level stays", x.state(6), 1);
        T.due("by this level", x.calmIn(100, 500), 5);
        T.due("the changes stay", x.state(21), 4);
        T.due("the tilt stays", x.compass(1), 105);
        // With the present level it is calm now, so it is with all of them.
        x.start(5, 5);
        T.due("of all of them the lowest", x.bestLevel(100, 500), 0);
    }
}
