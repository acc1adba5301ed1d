/** Promise 3, start: its cases. */
public final class Promise03Test {
    private static final Cases C = new Cases("promise 3, start");

    public static void main(String[] args) {
        errors();
        tilts();
        refused();
        previousError();
        direction();
        whatItChanges();
        C.end();
    }

    private static void errors() {
        C.says("`error`: -900000 to 900000");
        C.test("the error 900000 is taken, 900001 is refused", "start 900000 0 = 0", "compass 0 = 900000",
            "start 900001 0 ! BAD_VALUE-GONE", "start MAX 0 ! BAD_VALUE-GONE", "compass 0 = 900000", "state 21 = 1");
        C.test("the error -900000 is taken, -900001 is refused", "start -900000 0 = 0", "compass 0 = -900000",
            "start -900001 0 ! BAD_VALUE-GONE", "start MIN 0 ! BAD_VALUE-GONE", "compass 0 = -900000",
            "state 21 = 1");
    }

    private static void tilts() {
        C.says("`tilt`: -100000 to 100000");
        C.test("the tilt 100000 is taken, 100001 is refused", "start 0 100000 = 0", "compass 1 = 100000",
            "start 0 100001 ! BAD_VALUE-GONE", "start 0 MAX ! BAD_VALUE-GONE", "compass 1 = 100000", "state 21 = 1");
        C.test("the tilt -100000 is taken, -100001 is refused", "start 0 -100000 = 0", "compass 1 = -100000",
            "start 0 -100001 ! BAD_VALUE-GONE", "start 0 MIN ! BAD_VALUE-GONE", "compass 1 = -100000",
            "state 21 = 1");
        C.test("both at their ends", "start 900000 -100000 = 0", "start -900000 100000 = 900000",
            "compass 0 = -900000", "compass 1 = 100000");
    }

    private static void refused() {
        C.says("Returns the previous error; BAD_VALUE minus GONE if an argument is out of range.");
        C.test("a refused one changes nothing, the history neither", Cases.RICH, "start 900001 0 ! BAD_VALUE-GONE",
            "start -900001 0 ! BAD_VALUE-GONE", "start 0 100001 ! BAD_VALUE-GONE",
            "start 0 -100001 ! BAD_VALUE-GONE", "start 900001 -100001 ! BAD_VALUE-GONE");
        C.test("one argument out of range is enough, the other is not taken", "start 5 6", "start 7 100001 = -1000000002",
            "compass 0 = 5", "compass 1 = 6", "start -900001 8 = -1000000002", "compass 0 = 5", "compass 1 = 6");
    }

    private static void previousError() {
        C.says("Methods that return amounts that can be negative return error codes and NONE minus GONE, where GONE"
            + " is 1000000000.");
        C.test("a previous error of -2 is no BAD_VALUE", "start -2 0", "start -6 0 = -2", "start 0 0 = -6");
        C.says("Returns the previous error;");
        C.test("the previous error may be 1800000, which cannot be put", Cases.STILL, "start 900000 100000",
            "pass 20", "compass 0 = 1800000", "start 1800000 0 ! BAD_VALUE-GONE", "start 0 0 = 1800000");
        C.test("the previous error may be -1800000", Cases.STILL, "start -900000 -100000", "pass 20",
            "start 1 0 = -1800000");
        C.test("the previous tilt may be greater than one that can be put", "set GAIN 100", "start 900000 0",
            "pass 3", "compass 1 = -250840", "start 0 -100000 = 772121", "compass 1 = -100000");
    }

    private static void direction() {
        C.says("(start() does not change the direction.)");
        C.test("a start gives no direction", "start 900000 100000", "start -900000 0", "compass 3 = 0",
            "state 14 = 0");
        C.test("a start downwards leaves the direction 1", Cases.STILL, "start 0 5", "pass 1", "start -800 0",
            "compass 3 = 1", "state 13 = 0", "pass 1 = 0", "compass 3 = 1");
        C.test("a start upwards leaves the direction -1", Cases.STILL, "start 0 -5", "pass 1", "start 800 0",
            "compass 3 = -1", "state 13 = 0", "pass 1 = 0", "compass 3 = -1");
        C.test("a turning point is at the error that a start put", Cases.STILL, "start 0 5", "pass 1",
            "start -800 -1", "pass 1 = 1", "turn 0 0 = -800", "turn 0 1 = 1");
    }
    private static void whatItChanges() {
        C.says("Puts the compass to an error and a tilt. This is a change.");
        C.test("the first one is the error, the second one the tilt", "start 5 -6", "compass 0 = 5", "compass 1 = -6");
        C.only("error and tilt, nothing else", Cases.RICH, "start 5 -6", "compass 0", "compass 1");
        C.only("nothing, to where it is", Cases.RICH + "start 5 -6\n", "start 5 -6");
        C.undone("undo takes it back", Cases.ROOM, "start 5 -6");
    }
}
