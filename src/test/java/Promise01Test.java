/** Promise 1, a new object: its cases. */
public final class Promise01Test {
    private static final Cases C = new Cases("promise 1, GyroTrainer()");

    public static void main(String[] args) {
        zeros();
        emptyRows();
        lastCall();
        C.end();
    }

    private static void zeros() {
        C.says("Creates a trainer at the latitude 0, with the course 0 and the speed 0; A, T and what is set are 0,"
            + " the damping level is 2.");
        C.test("latitude, course and speed are 0", "compass 8 ~ 0", "state 1 ~ 0", "state 2 ~ 0");
        C.test("A and T are 0", "compass 0 ~ 0", "compass 1 ~ 0");
        C.test("what is set is 0", "compass 9 ~ 0", "state 18 ~ 0", "compass 2 ~ 0");
        C.test("the damping level is 2", "state 6 ~ 2", "start 0 50", "set RATE 1", "pass 1", "compass 1 = 49");
        C.test("nothing has passed and nothing was counted", "state 0 ~ 0", "state 5 ~ 0", "state 14 ~ 0",
            "state 16 ~ 0", "state 17 ~ 0", "compass 10 ~ 0", "compass 3 ~ 0");
        for (int level = 0; level < 5; level++) {
            C.test("no minute passed at level " + level, "state " + (8 + level) + " ~ 0");
        }
        C.says("(In parentheses: range; first value.)");
        int[] first = {20, 250, 15000, 5000, 500, 3000, 20, 1, 10};
        for (int setting = 0; setting < first.length; setting++) {
            C.test("the first value of setting " + setting, "state " + (22 + setting) + " ~ " + first[setting],
                "set " + setting + " 5 = " + first[setting]);
        }
        C.says("(it never was at first)");
        C.test("the level never was changed", "state 7 ~ NONE", "pass 3", "state 7 ~ NONE");
    }

    private static void emptyRows() {
        C.says("The ship has a latitude, from -70000000 to 70000000, a course and a speed (0 to 400), and up to 8"
            + " legs that are still to be sailed.");
        C.test("the row of legs is empty", "state 3 ~ 0", "state 4 ~ 0", "place 1 = 0", "steer 0 0 = 0");
        C.says("At most the 8 latest turning points are kept.");
        C.test("the row of turning points is empty", "state 13 ~ 0", "turn 0 0 ! NO_SUCH-GONE",
            "compass 4 ~ NONE-GONE", "compass 5 ~ NONE-GONE", "compass 6 ~ NONE-GONE", "reason ~ 1",
            "forgetSwings = 0");
        C.says("The 5 latest checks are kept.");
        C.test("the row of checks is empty", "state 15 ~ 0", "check 0 ! NO_SUCH-GONE", "compass 7 ~ 0");
        C.says("There are up to 6 reference lines, each with a true bearing.");
        C.test("the row of lines is empty", "state 19 ~ 0", "observe 0 ! NO_SUCH", "line 7 = 0");
        C.says("The pad is a text of at most 80 characters, from which legs are read:");
        C.test("the pad is empty", "state 20 ~ 0", "fault ~ 0", "load ! BAD_TEXT", "wipe ~ 0", "put \"c\" = 1");
        C.says("A history of at most 6 states is kept:");
        C.test("the history is empty", "state 21 ~ 0", "undo ! NOT_POSSIBLE");
        C.says("NOT_POSSIBLE if nothing was saved in it.");
        C.test("slot 0 is empty", "restore 0 ! NOT_POSSIBLE");
        C.test("slot 1 is empty", "restore 1 ! NOT_POSSIBLE");
    }

    private static void lastCall() {
        C.says("An object is used for at most 512 calls after it has been made; what later calls answer is free.");
        // R is 238782 away from 0, the greatest rest that there is; the sum goes beyond GONE.
        C.test("the 512th call answers the greatest sum of faults", "set LATE 30000", "place -70", "steer 0 400",
            "correct 70 0 = 1", "507 x guess 1800000 = 2038782", "compass 10 = 1033662474");
        C.test("the 512th call answers behind the greatest time", "start 900000 100000", "damp 0",
            "166 x pass 600", "pass 400", "342 x forgetSwings", "state 0 = 100000");
        C.test("the 512th call may be a change", "511 x start 7 8", "start 9 10 = 7");
        C.test("the 512th call may be refused", "511 x start 7 8", "pass 0 = BAD_VALUE");
    }
}
