/** Promises 2 to 5: set, start, place, line. */
public final class SettingUpTest {
    private static final Due T = new Due();
    private static final int G = 1000000000;

    public static void main(String[] args) {
        settings();
        wrongSettings();
        start();
        place();
        line();
        T.end();
    }

    private static void settings() {
        int[] least = {1, 1, 0, 0, 0, 0, 0, 0, 0};
        int[] most = {100, 1000, 30000, 100000, 20000, 50000, 500, 65535, 60};
        int[] first = {20, 250, 15000, 5000, 500, 3000, 20, 1, 10};
        for (int i = 0; i < 9; i++) {
            GyroTrainer x = new GyroTrainer();
            T.due("set " + i + " to its least", x.set(i, least[i]), first[i]);
            T.due("state of it", x.state(22 + i), least[i]);
            T.due("set " + i + " to its most", x.set(i, most[i]), least[i]);
            T.due("state of it", x.state(22 + i), most[i]);
            T.due("set " + i + " below its range", x.set(i, least[i] - 1), -2);
            T.due("set " + i + " above its range", x.set(i, most[i] + 1), -2);
            T.due("state of it stays", x.state(22 + i), most[i]);
            T.due("two changes", x.state(21), 2);
            for (int other = 0; other < 9; other++) {
                T.due("other settings stay", x.state(22 + other), other == i ? most[i] : first[other]);
            }
        }
    }

    private static void wrongSettings() {
        GyroTrainer x = new GyroTrainer();
        int[] wrong = {-1, 9, Integer.MIN_VALUE, Integer.MAX_VALUE};
        for (int setting : wrong) {
            T.due("set " + setting, x.set(setting, 1), -2);
            T.due("set gain to " + setting, x.set(GyroTrainer.GAIN, setting == 9 ? 0 : setting), -2);
        }
        T.due("no change", x.state(21), 0);
    }

    private static void start() {
        GyroTrainer x = new GyroTrainer();
        T.due("start at the greatest", x.start(900000, 100000), 0);
        T.due("error", x.compass(0), 900000);
        T.due("tilt", x.compass(1), 100000);
        T.due("start at the least", x.start(-900000, -100000), 900000);
        T.due("error", x.compass(0), -900000);
        T.due("tilt", x.compass(1), -100000);
        T.due("a negative previous error", x.start(5, 6), -900000);
        int[][] wrong = {{900001, 0}, {-900001, 0}, {0, 100001}, {0, -100001},
            {Integer.MIN_VALUE, 0}, {0, Integer.MIN_VALUE}, {Integer.MAX_VALUE, Integer.MAX_VALUE}};
        for (int[] w : wrong) {
            T.due("start " + w[0] + " " + w[1], x.start(w[0], w[1]), -2 - G);
        }
        T.due("error stays", x.compass(0), 5);
        T.due("tilt stays", x.compass(1), 6);
        T.due("three changes", x.state(21), 3);
        T.due("time stays", x.state(0), 0);
    }

    private static void place() {
        GyroTrainer x = new GyroTrainer();
        T.due("place north", x.place(70), 0);
        T.due("latitude", x.compass(8), 70000000);
        T.due("place south", x.place(-70), 0);
        T.due("latitude", x.compass(8), -70000000);
        int[] wrong = {71, -71, Integer.MIN_VALUE, Integer.MAX_VALUE};
        for (int degrees : wrong) {
            T.due("place " + degrees, x.place(degrees), -2);
        }
        T.due("latitude stays", x.compass(8), -70000000);
        x.steer(100, 50);
        T.due("place while steering", x.place(1), 0);
        T.due("course stays", x.state(1), 100);
        x.leg(0, 10, 1);
        T.due("place with a leg", x.place(2), -5);
        T.due("a wrong place with a leg: the value comes first", x.place(71), -2);
        T.due("latitude stays", x.compass(8), 1000000);
        T.due("five changes", x.state(21), 5);
        x.pass(1);
        T.due("the leg is done", x.place(-3), 0);
        T.due("latitude", x.compass(8), -3000000);
        T.due("what is set stays", x.compass(9), 0);
    }

    private static void line() {
        GyroTrainer x = new GyroTrainer();
        T.due("line -1", x.line(-1), -2);
        T.due("line 36000", x.line(36000), -2);
        T.due("line MIN", x.line(Integer.MIN_VALUE), -2);
        int[] bearings = {0, 35999, 1, 9000, 18000, 9000};
        for (int i = 0; i < 6; i++) {
            T.due("line number", x.line(bearings[i]), i);
            T.due("lines", x.state(19), i + 1);
        }
        T.due("a seventh line", x.line(0), -4);
        T.due("a wrong seventh line: the value comes first", x.line(36000), -2);
        T.due("lines", x.state(19), 6);
        T.due("changes", x.state(21), 6);
        x.set(GyroTrainer.NOISE, 0);
        for (int i = 0; i < 6; i++) {
            T.due("bearing of line " + i, x.observe(i), bearings[i]);
        }
    }
}
