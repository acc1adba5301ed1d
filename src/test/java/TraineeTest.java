/** Promises 9 to 13: damp, correct, forgetSwings, observe, guess. */
public final class TraineeTest {
    private static final Due T = new Due();

    public static void main(String[] args) {
        damp();
        waits();
        correct();
        forgetSwings();
        observe();
        bearingsAndSeeds();
        guess();
        T.end();
    }

    private static void damp() {
        GyroTrainer x = new GyroTrainer();
        x.set(GyroTrainer.WAIT, 0);
        int[] wrong = {-1, 5, Integer.MIN_VALUE, Integer.MAX_VALUE};
        for (int level : wrong) {
            T.due("damp " + level, x.damp(level), -2);
        }
        T.due("level", x.state(6), 2);
        T.due("never changed", x.state(7), -6);
        T.due("one change", x.state(21), 1);
        int[] levels = {0, 1, 2, 3, 4, 4, 0};
        int previous = 2;
        for (int level : levels) {
            T.due("damp " + level, x.damp(level), previous);
            T.due("level", x.state(6), level);
            T.due("minutes since", x.state(7), 0);
            x.pass(level + 1);
            T.due("minutes since", x.state(7), level + 1);
            previous = level;
        }
        int[] minutes = {2, 2, 3, 4, 10};
        for (int level = 0; level < 5; level++) {
            T.due("minutes at level " + level, x.state(8 + level), minutes[level]);
        }
    }

    private static void waits() {
        GyroTrainer x = new GyroTrainer();
        x.pass(1);
        T.due("the first one need not wait", x.damp(2), 2);
        T.due("the same level counts as changed", x.state(7), 0);
        T.due("at once", x.damp(3), -5);
        T.due("a wrong level at once: the value comes first", x.damp(5), -2);
        x.pass(9);
        T.due("9 minutes", x.damp(3), -5);
        T.due("level stays", x.state(6), 2);
        T.due("minutes since go on", x.state(7), 9);
        x.pass(1);
        T.due("10 minutes", x.damp(3), 2);
        x.set(GyroTrainer.WAIT, 60);
        x.pass(59);
        T.due("59 minutes", x.damp(4), -5);
        x.set(GyroTrainer.WAIT, 59);
        T.due("the setting of now counts", x.damp(4), 3);
        x.set(GyroTrainer.WAIT, 0);
        T.due("no wait", x.damp(0), 4);
    }

    private static void correct() {
        GyroTrainer x = new GyroTrainer();
        int[][] wrong = {{71, 0}, {-71, 0}, {0, -1}, {0, 401}, {Integer.MIN_VALUE, 0}, {0, Integer.MAX_VALUE}};
        for (int[] w : wrong) {
            T.due("correct " + w[0] + " " + w[1], x.correct(w[0], w[1]), -2);
        }
        T.due("no change", x.state(21), 0);
        T.due("the same", x.correct(0, 0), 0);
        T.due("another speed", x.correct(0, 400), 1);
        T.due("rest", x.compass(2), 25600);
        T.due("the same again", x.correct(0, 400), 0);
        T.due("another latitude", x.correct(-70, 400), 1);
        T.due("latitude that is set", x.compass(9), -70);
        T.due("speed that is set", x.state(18), 400);
        T.due("rest", x.compass(2), 115645);
        T.due("the ship stays", x.compass(8), 0);
        T.due("its speed, too", x.state(2), 0);
        T.due("changes", x.state(21), 4);
        x.steer(9000, 0);
        x.correct(0, 0);
        T.due("on an eastern course the speed is nothing", x.correct(0, 300), 0);
        x.set(GyroTrainer.LATE, 0);
        T.due("nothing is late", x.correct(50, 300), 0);
        T.due("the ship's course is taken", x.steer(18000, 0), 0);
        T.due("rest", x.compass(2), -29914);
    }

    private static void forgetSwings() {
        GyroTrainer x = new GyroTrainer();
        T.due("nothing to forget", x.forgetSwings(), 0);
        T.due("but a change", x.state(21), 1);
        x.start(100000, 0);
        x.pass(200);
        T.due("kept", x.state(13), 4);
        T.due("direction", x.compass(3), -1);
        T.due("forget", x.forgetSwings(), 4);
        T.due("kept", x.state(13), 0);
        T.due("found stays", x.state(14), 4);
        T.due("direction", x.compass(3), 0);
        T.due("swing", x.compass(6), -1000000006);
        T.due("settled", x.compass(4), -1000000006);
        T.due("turn", x.turn(0, 0), -1000000001);
        x.start(0, 50000);
        T.due("no direction ahead, so no turning point", x.pass(1), 0);
        x.start(0, -50000);
        T.due("but then", x.pass(1), 1);
        T.due("kept", x.state(13), 1);
        T.due("found", x.state(14), 5);
        x.steer(1, 2);
        x.set(GyroTrainer.LATE, 3);
        x.damp(1);
        T.due("it stays when something is steered, set, damped", x.state(13), 1);
    }

    private static void observe() {
        GyroTrainer x = new GyroTrainer();
        T.due("no line", x.observe(0), -1);
        x.line(9000);
        T.due("line -1", x.observe(-1), -1);
        T.due("line 1", x.observe(1), -1);
        T.due("line MIN", x.observe(Integer.MIN_VALUE), -1);
        T.due("line MAX", x.observe(Integer.MAX_VALUE), -1);
        T.due("seed stays", x.state(29), 1);
        T.due("one change", x.state(21), 1);
        int[] seeds = {149, 11249, 57305, 38044, 35283, 24819};
        int[] noises = {6, -5, 8, 17, 3, -6};
        for (int i = 0; i < 6; i++) {
            T.due("observe", x.observe(0), 9000 + noises[i]);
            T.due("seed", x.state(29), seeds[i]);
            T.due("check", x.check(0), noises[i]);
            T.due("observations", x.state(16), i + 1);
            T.due("checks", x.state(15), Math.min(i + 1, 5));
        }
        for (int i = 0; i < 5; i++) {
            T.due("check " + i, x.check(i), noises[5 - i]);
        }
    }

    private static void bearingsAndSeeds() {
        GyroTrainer x = new GyroTrainer();
        x.set(GyroTrainer.NOISE, 500);
        x.line(0);
        T.due("below 0", x.observe(0), 36000 - 351);
        T.due("check", x.check(0), -351);
        x.set(GyroTrainer.NOISE, 0);
        T.due("no noise", x.observe(0), 0);
        T.due("but another seed", x.state(29), 11249);
        x.start(-199, 0);
        T.due("rounded toward 0", x.observe(0), 35999);
        x.start(199, 0);
        T.due("rounded toward 0", x.observe(0), 1);
        x.start(900000, 0);
        x.line(35000);
        T.due("above 36000", x.observe(1), 8000);
        x.start(-900000, 0);
        T.due("below 0", x.observe(0), 27000);
        x.start(100000, 0);
        T.due("just 36000", x.observe(1), 0);
        x.start(99900, 0);
        T.due("just below", x.observe(1), 35999);
        x.set(GyroTrainer.SEED, 65535);
        x.observe(0);
        T.due("seed behind 65535", x.state(29), 65461);
        x.set(GyroTrainer.SEED, 0);
        x.observe(0);
        T.due("seed behind 0", x.state(29), 74);
    }

    private static void guess() {
        GyroTrainer x = new GyroTrainer();
        int[] wrong = {1800001, -1800001, Integer.MIN_VALUE, Integer.MAX_VALUE};
        for (int error : wrong) {
            T.due("guess " + error, x.guess(error), -2);
        }
        T.due("no guess", x.state(17), 0);
        T.due("no change", x.state(21), 0);
        x.place(50);
        x.start(1000, 0);
        T.due("right", x.guess(17871), 0);
        T.due("below", x.guess(0), 17871);
        T.due("above", x.guess(1800000), 1782129);
        T.due("far below", x.guess(-1800000), 1817871);
        T.due("guesses", x.state(17), 4);
        T.due("faults", x.compass(10), 17871 + 1782129 + 1817871);
        T.due("changes", x.state(21), 6);
    }
}
