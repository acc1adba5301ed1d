/** Promise 2, set: its cases. */
public final class Promise02Test {
    private static final Cases C = new Cases("promise 2, set");
    private static final String[] NAMES = {"GAIN", "RATE", "LATE", "SWING", "AGREE", "TOLERANCE", "NOISE", "SEED",
        "WAIT"};
    private static final String[] SAID = {"GAIN (1 to 100; 20)", "RATE (1 to 1000; 250)", "LATE (0 to 30000; 15000)",
        "SWING (0 to 100000; 5000)", "AGREE (0 to 20000; 500)", "TOLERANCE (0 to 50000; 3000)",
        "NOISE (0 to 500; 20)", "SEED (0 to 65535; 1)", "WAIT (0 to 60; 10)"};
    private static final int[] LEAST = {1, 1, 0, 0, 0, 0, 0, 0, 0};
    private static final int[] MOST = {100, 1000, 30000, 100000, 20000, 50000, 500, 65535, 60};
    private static final int[] FIRST = {20, 250, 15000, 5000, 500, 3000, 20, 1, 10};

    public static void main(String[] args) {
        for (int setting = 0; setting < NAMES.length; setting++) {
            ranges(setting);
        }
        noSuchSetting();
        previousValue();
        whatItChanges();
        C.end();
    }

    private static void ranges(int setting) {
        C.says(SAID[setting]);
        String set = "set " + NAMES[setting] + " ";
        String state = "state " + (22 + setting) + " = ";
        int least = LEAST[setting];
        int most = MOST[setting];
        C.test(NAMES[setting] + ": " + least + " is taken, " + (least - 1) + " is refused",
            set + least + " = " + FIRST[setting], state + least, "state 21 = 1",
            set + (least - 1) + " ! BAD_VALUE", set + "MIN ! BAD_VALUE", state + least, "state 21 = 1");
        C.test(NAMES[setting] + ": " + most + " is taken, " + (most + 1) + " is refused",
            set + most + " = " + FIRST[setting], state + most, "state 21 = 1",
            set + (most + 1) + " ! BAD_VALUE", set + "MAX ! BAD_VALUE", state + most, "state 21 = 1");
        C.test(NAMES[setting] + ": from one end to the other", set + least, set + most + " = " + least,
            set + least + " = " + most, state + least);
        C.test(NAMES[setting] + ": beside its range it changes nothing, the history neither", Cases.RICH,
            set + (least - 1) + " ! BAD_VALUE", set + (most + 1) + " ! BAD_VALUE");
    }

    private static void noSuchSetting() {
        C.says("BAD_VALUE if there is no such setting, or the value is out of its range.");
        C.test("setting -1 is refused", "set -1 1 ! BAD_VALUE", "set -1 0 ! BAD_VALUE", "set MIN 1 ! BAD_VALUE",
            "set MIN 0 ! BAD_VALUE");
        C.test("setting 9 is refused", "set 9 1 ! BAD_VALUE", "set 9 0 ! BAD_VALUE", "set MAX 1 ! BAD_VALUE",
            "set MAX 0 ! BAD_VALUE");
        C.test("settings 0 and 8 are taken", "set 0 2 = 20", "set 8 3 = 10", "state 22 = 2", "state 30 = 3");
        C.test("no setting and no value", "set -1 -1 ! BAD_VALUE", "set 9 MAX ! BAD_VALUE");
        C.test("no such setting changes nothing", Cases.RICH, "set -1 1 ! BAD_VALUE", "set 9 1 ! BAD_VALUE");
    }

    private static void previousValue() {
        C.says("Returns the previous value;");
        C.test("a value that is refused is not the previous one", "set GAIN 101 ! BAD_VALUE", "set GAIN 100 = 20",
            "set GAIN 0 ! BAD_VALUE", "set GAIN 1 = 100");
        C.test("the value that it is", "set RATE 250 = 250", "set RATE 250 = 250", "state 21 = 2");
        C.test("the previous value behind undo", "set LATE 1", "undo", "set LATE 2 = 15000");
        C.test("SEED: what observations have made of it", "line 0", "observe 0", "set SEED 0 = 149");
    }
    private static void whatItChanges() {
        C.says("Changes a setting. This is a change.");
        int[] values = {55, 66, 77, 88, 99, 111, 22, 333, 44};
        for (int setting = 0; setting < NAMES.length; setting++) {
            String set = "set " + NAMES[setting] + " " + values[setting];
            String number = "state " + (22 + setting);
            if (NAMES[setting].equals("LATE")) {
                C.only(NAMES[setting] + ": nothing else, but for R", Cases.RICH, set, number, "compass 2");
            } else {
                C.only(NAMES[setting] + ": nothing else", Cases.RICH, set, number);
            }
            C.only(NAMES[setting] + ": nothing, to the value that it is", Cases.RICH + set + "\n", set);
            C.undone(NAMES[setting] + ": undo takes it back", Cases.ROOM, set);
        }
        C.says("`GAIN = 0, RATE = 1, LATE = 2, SWING = 3, AGREE = 4, TOLERANCE = 5, NOISE = 6, SEED = 7, WAIT = 8`:"
            + " Settings.");
        C.test("their numbers are those of state, less 22", "set 0 31", "set 1 32", "set 2 33", "set 3 34", "set 4 35",
            "set 5 36", "set 6 37", "set 7 38", "set 8 39", "state 22 = 31", "state 23 = 32", "state 24 = 33",
            "state 25 = 34", "state 26 = 35", "state 27 = 36", "state 28 = 37", "state 29 = 38", "state 30 = 39");
    }
}
