/** Promise 18, state: its cases. */
public final class Promise18Test {
    private static final Cases C = new Cases("promise 18, state");

    public static void main(String[] args) {
        what();
        legs();
        sinceChanged();
        fullRows();
        all();
        eachTellsItsOwn();
        C.end();
    }

    private static void what() {
        C.says("Returns the number; BAD_VALUE if what is out of range.");
        C.test("0 is taken, -1 is refused", "pass 7", "state 0 ~ 7", "state -1 ! BAD_VALUE", "state MIN ! BAD_VALUE");
        C.test("30 is taken, 31 is refused", "state 30 ~ 10", "state 31 ! BAD_VALUE", "state MAX ! BAD_VALUE");
        C.test("looking changes nothing", Cases.RICH, "state -1 ! BAD_VALUE", "state 31 ! BAD_VALUE", "state 0 ~ 197",
            "state 21 ~ 6");
    }

    private static void legs() {
        C.says("4 the minutes that are left of the first leg (0 if there is none)");
        C.test("no leg has no minutes left", "state 4 ~ 0", "steer 5 6", "state 4 ~ 0");
        C.test("the last minute", "leg 0 0 2", "state 4 ~ 2", "pass 1", "state 4 ~ 1", "pass 1", "state 4 ~ 0",
            "state 3 ~ 0");
        C.test("those of the first one, not of another", "leg 0 0 2", "leg 0 0 600", "state 4 ~ 2", "pass 1",
            "state 4 ~ 1", "pass 1", "state 4 ~ 600");
    }

    private static void sinceChanged() {
        C.says("7 the minutes since it was changed last (NONE if it never was)");
        C.test("never, and then 0", "pass 600", "state 7 ~ NONE", "damp 1", "state 7 ~ 0", "pass 1", "state 7 ~ 1");
        C.test("a refused change is none", "damp 5 ! BAD_VALUE", "state 7 ~ NONE");
        C.test("other changes are none", Cases.turned(1, 2, 3), "pass 7", "set GAIN 5", "correct 1 2", "steer 3 4",
            "state 7 ~ 11");
        C.test("undo to never", "damp 1", "pass 3", "undo", "state 7 ~ 0", "undo", "state 7 ~ NONE");
        C.test("restored to never", "save 0", "damp 1", "pass 3", "restore 0", "state 7 ~ NONE");
    }

    private static void fullRows() {
        C.says("The ship has a latitude, from -70000000 to 70000000, a course and a speed (0 to 400), and up to 8"
            + " legs that are still to be sailed.");
        C.test("3: the full row of legs", "8 x leg 1 2 3", "state 3 ~ 8", "leg 1 2 3 ! TOO_MANY", "state 3 ~ 8",
            "pass 3", "state 3 ~ 7");
        C.says("13 the turning points that are kept, 14 all that were found");
        C.test("13 and 14: the full row of turning points", Cases.turned(1, 2, 3, 4, 5, 6, 7, 8), "state 13 ~ 8",
            "state 14 ~ 8");
        C.test("13 and 14: one more than the full row", Cases.turned(1, 2, 3, 4, 5, 6, 7, 8, 9), "state 13 ~ 8",
            "state 14 ~ 9");
        C.test("13 and 14: dropped ones were found", Cases.turned(1, 2, 3), "forgetSwings", "state 13 ~ 0",
            "state 14 ~ 3");
        C.says("15 the checks that are kept, 16 all observations");
        C.test("15 and 16: the full row of checks", Cases.checked(1, 2, 3, 4, 5), "state 15 ~ 5", "state 16 ~ 5");
        C.test("15 and 16: one more than the full row", Cases.checked(1, 2, 3, 4, 5, 6), "state 15 ~ 5",
            "state 16 ~ 6");
        C.test("16: refused observations do not count", Cases.checked(1), "observe 1 ! NO_SUCH",
            "observe -1 ! NO_SUCH", "state 15 ~ 1", "state 16 ~ 1");
        C.says("17 the guesses, 18 the speed that is set, 19 the reference lines, 20 the length of the pad, 21 how"
            + " many changes can be undone, 22 to 30 the settings");
        C.test("17: refused guesses do not count", "guess 1800000", "guess 1800001 ! BAD_VALUE", "state 17 ~ 1");
        C.test("18: both ends", "correct 0 400", "state 18 ~ 400", "correct 0 0", "state 18 ~ 0");
        C.test("19: the full row of lines", "6 x line 1", "state 19 ~ 6", "line 1 ! TOO_MANY", "state 19 ~ 6");
        C.test("20: the full pad", "10 x put \"abcdefgh\"", "state 20 ~ 80", "put \"a\" ! TOO_MANY", "state 20 ~ 80");
        C.test("21: the full history", "6 x start 1 2", "state 21 ~ 6", "start 3 4", "state 21 ~ 6", "undo",
            "state 21 ~ 5");
        C.test("22 to 30: a refused value is not seen", "set GAIN 0 ! BAD_VALUE", "set WAIT 61 ! BAD_VALUE",
            "state 22 ~ 20", "state 30 ~ 10");
    }

    private static void all() {
        C.says("5 the way, 6 the damping level");
        C.test("0 to 7 each tell their own", "set WAIT 0", "leg 100 20 30", "leg 200 30 40", "pass 7", "damp 3",
            "pass 5", "state 0 ~ 12", "state 1 ~ 100", "state 2 ~ 20", "state 3 ~ 2", "state 4 ~ 18",
            "state 5 ~ 240", "state 6 ~ 3", "state 7 ~ 5");
        C.says("8 to 12 the minutes that passed at the levels 0 to 4");
        C.test("8 to 12: levels 0 and 4 are both ends", "set WAIT 0", "damp 0", "pass 3", "damp 4", "pass 5",
            "state 8 ~ 3", "state 9 ~ 0", "state 10 ~ 0", "state 11 ~ 0", "state 12 ~ 5");
        C.says("22 to 30 the settings");
        C.test("22 to 30 each tell their own", "set GAIN 31", "set RATE 32", "set LATE 33", "set SWING 34",
            "set AGREE 35", "set TOLERANCE 36", "set NOISE 37", "set SEED 38", "set WAIT 39", "state 22 ~ 31",
            "state 23 ~ 32", "state 24 ~ 33", "state 25 ~ 34", "state 26 ~ 35", "state 27 ~ 36", "state 28 ~ 37",
            "state 29 ~ 38", "state 30 ~ 39");
    }
    private static void eachTellsItsOwn() {
        C.says("Returns a number about the ship and the trainer.");
        int[] due = {197, 3000, 40, 2, 43, 17380, 3, 27, 0, 0, 170, 27, 0, 3, 3, 4, 4, 1, 20, 2, 8, 6, 20, 250, 15000,
            5000, 500, 3000, 20, 38044, 5};
        for (int what = 0; what < due.length; what++) {
            C.test("the number " + what, Cases.RICH, "state " + what + " ~ " + due[what]);
        }
        C.says("0 the time, 1 the course, 2 the speed, 3 the legs,");
        C.test("0 to 3, and other numbers", "leg 700 80 9", "leg 600 50 4", "pass 2", "state 0 ~ 2", "state 1 ~ 700",
            "state 2 ~ 80", "state 3 ~ 2");
    }
}
