/** Promise 14, compass: its cases. */
public final class Promise14Test {
    private static final Cases C = new Cases("promise 14, compass");

    public static void main(String[] args) {
        what();
        fewerThanThree();
        rows();
        rounding();
        mean();
        rest();
        latitudeOfRest();
        eachTellsItsOwn();
        C.end();
    }

    private static void what() {
        C.says("Returns the number; BAD_VALUE minus GONE if what is out of range.");
        C.test("0 is taken, -1 is refused", "start 5 0", "compass 0 ~ 5", "compass -1 ! BAD_VALUE-GONE",
            "compass MIN ! BAD_VALUE-GONE");
        C.test("10 is taken, 11 is refused", "guess 7", "compass 10 ~ 7", "compass 11 ! BAD_VALUE-GONE",
            "compass MAX ! BAD_VALUE-GONE");
        C.test("looking changes nothing", Cases.RICH, "compass -1 ! BAD_VALUE-GONE", "compass 11 ! BAD_VALUE-GONE",
            "compass 3 ~ 1", "compass 4 ~ 6803", "compass 5 ~ 7259", "compass 6 ~ -51080", "compass 8 ~ 40344596",
            "compass 9 ~ -3");
        C.says("Methods that return amounts that can be negative return error codes and NONE minus GONE, where GONE"
            + " is 1000000000.");
        C.test("amounts of -1 to -6 are no errors", "start -2 -6", "compass 0 ~ -2", "compass 1 ~ -6",
            "start -1 -5", "compass 0 ~ -1", "compass 1 ~ -5");
    }

    private static void fewerThanThree() {
        C.says("(4 and 5: NONE minus GONE if there are fewer than three turning points)");
        C.test("settled by none", "compass 4 ~ NONE-GONE", "compass 5 ~ NONE-GONE");
        C.test("settled by one", Cases.turned(10), "compass 4 ~ NONE-GONE", "compass 5 ~ NONE-GONE");
        C.test("settled by two", Cases.turned(10, 20), "compass 4 ~ NONE-GONE", "compass 5 ~ NONE-GONE");
        C.test("settled by three", Cases.turned(10, 20, 30), "compass 4 ~ 20", "compass 5 ~ 15");
        C.says("6 the swing e3 - e2 (NONE minus GONE if there are fewer than two turning points)");
        C.test("the swing of none", "compass 6 ~ NONE-GONE");
        C.test("the swing of one", Cases.turned(10), "compass 6 ~ NONE-GONE");
        C.test("the swing of two", Cases.turned(10, 25), "compass 6 ~ 15");
        C.test("the swing of two downwards", Cases.turned(25, 10), "compass 6 ~ -15");
        C.test("the swing of three", Cases.turned(10, 25, 27), "compass 6 ~ 2");
        C.says("3 the direction (1, -1, or 0 if there was none yet)");
        C.test("no direction yet", Cases.STILL, "pass 5", "compass 3 ~ 0", "start 0 1", "pass 1", "compass 3 ~ 1",
            "start 0 -1", "pass 1", "compass 3 ~ -1");
    }

    private static void rows() {
        C.says("With e1, e2 and e3 as the errors of the last three turning points:");
        C.test("the last three of the full row", Cases.turned(900, 800, 700, 600, 500, 1, 2, 4), "compass 4 ~ 2",
            "compass 5 ~ 1", "compass 6 ~ 2");
        C.test("the last three of one more than the full row", Cases.turned(900, 800, 700, 600, 500, 400, 1, 2, 4),
            "compass 4 ~ 2", "compass 5 ~ 1", "compass 6 ~ 2");
        C.test("the last three of four", Cases.turned(900, 1, 2, 4), "compass 4 ~ 2", "compass 5 ~ 1",
            "compass 6 ~ 2");
        C.says("7 the sum of the checks that are kept");
        C.test("the sum of no checks", "compass 7 ~ 0");
        C.test("the sum of one check", Cases.checked(-3), "compass 7 ~ -3");
        C.test("the sum of the full row", Cases.checked(1, 20, 300, 4000, -5), "compass 7 ~ 4316");
        C.test("the sum behind one more than the full row", Cases.checked(1, 20, 300, 4000, -5, 6), "compass 7 ~ 4321");
    }

    private static void rounding() {
        C.says("the settled error by turning points is (e1 + 2 * e2 + e3) / 4;");
        C.test("e2 counts twice", Cases.turned(0, 100, 0), "compass 4 ~ 50");
        C.test("e1 and e3 count once", Cases.turned(100, 0, 300), "compass 4 ~ 100");
        C.test("three quarters are nothing", Cases.turned(1, 1, 0), "compass 4 ~ 0");
        C.test("four quarters are 1", Cases.turned(1, 1, 1), "compass 4 ~ 1");
        C.test("settled errors are rounded toward 0", Cases.turned(3, 0, 4), "compass 4 ~ 1");
        C.test("settled errors are rounded toward 0 below 0", Cases.turned(-3, 0, -4), "compass 4 ~ -1");
        C.test("three quarters are nothing below 0", Cases.turned(-1, -1, 0), "compass 4 ~ 0");
        C.says("that by the mean is the sum of the errors A, as they were right behind each of the minutes t1 + 1 to"
            + " t3, divided by t3 - t1, with t1 and t3 as the numbers of minutes of the first and the last one of"
            + " these turning points.");
        C.test("the mean is rounded toward 0", Cases.turned(3, 0, 4), "compass 5 ~ 1");
        C.test("the mean is rounded toward 0 below 0", Cases.turned(-3, 0, -4), "compass 5 ~ -1");
    }

    private static void mean() {
        // Behind the minutes 1 to 7 the errors are 500, 90, 80, 70, 220, 240, 299.
        String run = Cases.STILL + """
            start 0 500
            pass 1
            start 100 -10
            pass 3 = 1
            start 200 20
            pass 2 = 1
            start 300 -1
            pass 1 = 1
            turn 2 1 = 1
            turn 1 1 = 4
            turn 0 1 = 6
            """;
        C.test("the minute t1 does not count, t1 + 1 and t3 do, t3 + 1 does not", run, "compass 5 ~ 140");
        C.test("later minutes do not count", run, "pass 100 = 0", "compass 5 ~ 140");
        C.test("a later start does not count", run, "start -900 0", "pass 5 = 0", "compass 5 ~ 140");
        C.test("a fourth turning point moves t1 and t3", run, "start 400 1", "pass 1 = 1", "compass 5 ~ 253");
        C.test("minutes undone and passed again", run, "undo", "undo", "pass 4", "start 300 -1", "pass 1 = 1",
            "turn 0 1 = 10", "compass 5 ~ 206");
        C.test("a sum that is too great for an int", "set GAIN 1", "set RATE 1", "damp 0", "start 0 1000", "pass 1",
            "start 900000 -1000", "pass 600 = 1", "start 900000 0", "pass 600 = 0", "start 900000 0", "pass 600 = 0",
            "start 900000 0", "pass 600 = 0", "start 900000 0", "pass 600 = 0", "start 900000 0", "pass 600 = 0",
            "start 900000 100000", "pass 50 = 1", "start 900000 -1000", "pass 1 = 1", "turn 2 1 = 1",
            "turn 0 1 = 3651", "compass 4 ~ 900000", "compass 5 ~ 847591");
    }

    private static void rest() {
        C.says("E(f, v, c) = LATE * sin(f) / cos(f) - (64 * v * cos(c)) / cos(f); each of the two quotients is"
            + " rounded by itself.");
        C.test("the rest at both ends of the latitude", "place 70", "compass 2 ~ 41045", "compass 8 ~ 70000000",
            "place -70", "compass 2 ~ -41045", "compass 8 ~ -70000000");
        C.test("what is set at both ends of the latitude", "correct 70 0", "compass 2 ~ -41045", "compass 9 ~ 70",
            "correct -70 0", "compass 2 ~ 41045", "compass 9 ~ -70");
        C.test("the greatest rest", "set LATE 30000", "place 70", "steer 18000 400", "correct -70 0",
            "compass 2 ~ 238782");
        C.test("the least rest", "set LATE 30000", "place -70", "steer 0 400", "correct 70 0", "compass 2 ~ -238782");
        C.test("what is set as the ship is", "place 70", "steer 12345 400", "correct 70 400", "compass 2 ~ 0");
        C.test("the quotients of the ship and of the correctors are rounded by themselves", "steer 9001 88",
            "correct 0 88", "compass 2 ~ 0", "steer 9001 89", "compass 2 ~ 1", "correct 0 89", "compass 2 ~ 0",
            "steer 9001 0", "compass 2 ~ -1");
    }

    private static void latitudeOfRest() {
        C.says("The sine of a latitude is that of the course (its absolute value) / 10000, with the sign of the"
            + " latitude; its cosine is the cosine of that course.");
        C.test("the latitude 9999 is the course 0", "steer 0 351", "pass 1", "steer 4500 1", "pass 9", "steer 0 0",
            "compass 8 ~ 9999", "compass 2 ~ 0");
        C.test("the latitude 10000 is the course 1", "steer 0 349", "pass 1", "steer 4500 1", "pass 12", "steer 0 0",
            "compass 8 ~ 10000", "compass 2 ~ 2");
        C.test("the latitude -9999 is the course 0", "steer 18000 351", "pass 1", "steer 13500 1", "pass 9",
            "steer 0 0", "compass 8 ~ -9999", "compass 2 ~ 0");
        C.test("the latitude -10000 is the course 1, and its sine is below 0", "steer 18000 349", "pass 1",
            "steer 13500 1", "pass 12", "steer 0 0", "compass 8 ~ -10000", "compass 2 ~ -2");
        C.test("the latitude 0 has no sine", "place 0", "compass 2 ~ 0", "set LATE 30000", "compass 2 ~ 0");
    }
    private static void eachTellsItsOwn() {
        String run = Cases.checked(3, 4) + Cases.turned(10, 25, 40) + "start 41 -9\nplace 7\ncorrect -9 0\nguess 5000\n";
        C.says("Returns a number about the compass.");
        C.test("0 A, 1 T, 3 the direction, 6 the swing, 7 the sum of checks", run, "compass 0 ~ 41", "compass 1 ~ -9",
            "compass 3 ~ -1", "compass 6 ~ 15", "compass 7 ~ 7");
        C.says("`what`: 0 A, 1 T, 2 R,");
        C.test("2 R", run, "restAt 7 0 0 = 1863", "restAt -9 0 0 = -2399", "compass 2 ~ 4262");
        C.says("4 the settled error by turning points, 5 that by the mean");
        C.test("4 and 5, which differ", run, "compass 4 ~ 25", "compass 5 ~ 17");
        C.says("8 the latitude, 9 that which is set, in degrees, 10 the sum of faults");
        C.test("8, 9 and 10", run, "compass 8 ~ 7000000", "compass 9 ~ -9", "compass 10 ~ 738", "guess 0",
            "compass 10 ~ 5000");
    }
}
