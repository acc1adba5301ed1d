/** Promise 8, pass, with what a minute does: its cases. */
public final class Promise08Test {
    private static final Cases C = new Cases("promise 8, pass");
    /** Tilts grow fast then, and the error hardly moves. */
    private static final String STEEP = """
        set GAIN 100
        set RATE 1
        set WAIT 0
        damp 0
        """;

    public static void main(String[] args) {
        minutes();
        mostTime();
        countOfTurningPoints();
        legs();
        restOfNow();
        tiltIsRounded();
        tiltIsLimited();
        errorIsLimited();
        direction();
        directionBefore();
        latitude();
        latitudeIsRounded();
        counters();
        whatItChanges();
        atRest();
        units();
        C.end();
    }

    private static void minutes() {
        C.says("`minutes`: 1 to 600");
        C.test("1 minute is taken, 0 are refused", "pass 1 = 0", "state 0 = 1", "pass 0 ! BAD_VALUE",
            "pass -1 ! BAD_VALUE", "pass MIN ! BAD_VALUE", "state 0 = 1", "state 21 = 1");
        C.test("600 minutes are taken, 601 are refused", "pass 600 = 0", "state 0 = 600", "pass 601 ! BAD_VALUE",
            "pass MAX ! BAD_VALUE", "state 0 = 600", "state 21 = 1");
        C.says("A call that returns an error changes nothing.");
        C.test("a refused one changes nothing, the history neither", Cases.RICH, "pass 0 ! BAD_VALUE",
            "pass 601 ! BAD_VALUE", "pass -1 ! BAD_VALUE", "pass MAX ! BAD_VALUE");
    }

    private static void mostTime() {
        C.says("NOT_POSSIBLE if the time would be greater than 100000.");
        C.test("the time 100000 is taken, 100001 is refused", "166 x pass 600", "state 0 = 99600",
            "pass 401 ! NOT_POSSIBLE", "pass 600 ! NOT_POSSIBLE", "pass 400 = 0", "state 0 = 100000");
        C.test("no minute passes behind the time 100000", "166 x pass 600", "pass 400", "pass 1 ! NOT_POSSIBLE",
            "pass 600 ! NOT_POSSIBLE", "state 0 = 100000", "state 10 = 100000");
        C.test("600 minutes pass at 99400", "165 x pass 600", "pass 400", "pass 600 = 0", "state 0 = 100000");
        C.test("600 minutes are refused at 99401", "165 x pass 600", "pass 401", "pass 600 ! NOT_POSSIBLE",
            "pass 599 = 0", "state 0 = 100000");
        C.test("minutes that are undone may pass again", "166 x pass 600", "pass 400", "pass 1 ! NOT_POSSIBLE",
            "undo", "pass 401 ! NOT_POSSIBLE", "pass 400 = 0");
        C.test("a refused one is sailed not even in part", "166 x pass 600", "start 100000 0", "leg 0 100 3",
            "pass 399", "pass 2 ! NOT_POSSIBLE", "pass 600 ! NOT_POSSIBLE", "state 0 = 99999");
        C.says("it names its errors in the order in which they are checked, and the first one that applies is"
            + " returned.");
        C.test("out of range comes ahead of the time", "166 x pass 600", "pass 400", "pass 0 ! BAD_VALUE",
            "pass 601 ! BAD_VALUE", "pass MIN ! BAD_VALUE", "pass MAX ! BAD_VALUE", "pass 600 ! NOT_POSSIBLE");
    }

    private static void countOfTurningPoints() {
        C.says("Returns the number of turning points that were found in these minutes;");
        C.test("none", "pass 600 = 0", "state 14 = 0");
        C.test("one", Cases.STILL, "start 0 1", "pass 5 = 0", "start 0 -1", "pass 5 = 1", "pass 5 = 0");
        C.test("more than are kept", "set GAIN 100", "set RATE 1000", "damp 0", "start 100000 0", "pass 100 = 10",
            "state 13 = 8", "state 14 = 10", "pass 80 = 8", "state 13 = 8", "state 14 = 18");
    }

    private static void legs() {
        C.says("If there are legs, the ship takes course and speed of the first one.");
        C.test("the first minute is sailed by the first leg", "steer 9000 400", "leg 0 100 1", "leg 18000 50 1",
            "pass 1", "compass 8 = 2800", "pass 1", "compass 8 = 1400");
        C.test("the rest of a minute is that of its own leg", "set GAIN 10", "set RATE 1000", "damp 0",
            "leg 18000 100 1", "compass 2 = 6400", "pass 1", "compass 1 = 64", "compass 2 = 0");
        C.test("the rest of the next leg counts from its own first minute on", "set GAIN 10", "set RATE 1000",
            "damp 0", "leg 0 0 1", "leg 18000 100 5", "pass 1", "compass 1 = 0", "compass 2 = 6400", "pass 1",
            "compass 1 = 64");
        C.says("If there are legs, the minutes that are left of the first one decrease by 1; if they are 0 then, the"
            + " leg is done; if there is no other one, the speed is 0 then (the course stays).");
        C.test("a leg of one minute is done by it", "leg 300 40 1", "pass 1", "state 3 = 0", "state 4 = 0",
            "state 5 = 40");
        C.test("the last minute of a leg", "leg 300 40 600", "pass 599", "state 3 = 1", "state 4 = 1",
            "state 2 = 40", "pass 1", "state 3 = 0", "state 4 = 0");
        C.test("when the last leg is done, the speed is 0 and the course stays", "leg 300 40 2", "pass 2",
            "state 2 = 0", "state 1 = 300", "pass 5", "state 5 = 80", "state 1 = 300");
        C.test("when another leg follows, the speed is that of it", "leg 300 40 2", "leg 600 70 3", "pass 2",
            "state 2 = 70", "state 1 = 600", "state 3 = 1", "state 4 = 3");
        C.test("the full row of legs in one call", "leg 0 100 1", "leg 9000 50 2", "leg 18000 20 3", "leg 0 1 1",
            "leg 0 2 1", "leg 0 3 1", "leg 0 4 1", "leg 700 5 1", "pass 11", "state 3 = 0", "state 2 = 0",
            "state 1 = 700", "state 5 = 275");
        C.test("a ship without legs sails on", "steer 0 10", "pass 3", "state 2 = 10", "state 5 = 30");
    }

    private static void restOfNow() {
        C.says("With R as it is now and c as the cosine of the latitude:");
        String fast = """
            set LATE 30000
            set GAIN 100
            set RATE 1000
            damp 0
            """;
        C.test("R is that of the latitude ahead of the minute", fast, "place 69", "steer 18000 400", "correct 69 400",
            "compass 2 = 0", "pass 1", "compass 1 = 0", "compass 2 = -144", "pass 1", "compass 1 = -5",
            "compass 0 = -5");
        C.test("R is that of the latitude ahead of the minute, in the south", fast, "place -69", "steer 0 400",
            "correct -69 400", "compass 2 = 0", "pass 1", "compass 1 = 0", "compass 2 = 144", "pass 1",
            "compass 1 = 5", "compass 0 = 5");
        C.test("c is that of the latitude ahead of the minute", fast, "place 69", "steer 18000 400", "correct 69 400",
            "start 900000 0", "pass 1", "compass 1 = -32346");
    }

    private static void tiltIsRounded() {
        C.says("T decreases by GAIN * (A - R) / 1000 * c / 1000000 (two quotients, one after the other)");
        C.test("the first quotient: 999 is nothing, 1000 is 1, 1999 is 1", Cases.STILL, "start 999 0", "pass 1",
            "compass 1 = 0", "start 1000 0", "pass 1", "compass 1 = -1", "start 1999 0", "pass 1", "compass 1 = -1",
            "start 2000 0", "pass 1", "compass 1 = -2");
        C.test("the first quotient is rounded toward 0 below 0", Cases.STILL, "start -999 0", "pass 1",
            "compass 1 = 0", "start -1000 0", "pass 1", "compass 1 = 1", "start -1999 0", "pass 1", "compass 1 = 1",
            "start -2000 0", "pass 1", "compass 1 = 2");
        String north = Cases.STILL + "place 59\ncorrect 59 0\n";
        C.test("the second quotient: 514924 millionths are nothing, twice as many are 1", north, "start 1000 0",
            "pass 1", "compass 1 = 0", "start 2000 0", "pass 1", "compass 1 = -1");
        C.test("the second quotient is rounded toward 0 below 0", north, "start -1000 0", "pass 1", "compass 1 = 0",
            "start -2000 0", "pass 1", "compass 1 = 1");
        C.test("the second quotient: 999999 millionths are nothing", Cases.STILL, "set LATE 0", "steer 0 357", "pass 1",
            "steer 0 0", "start 1000 0", "compass 8 = 9996", "pass 1", "compass 1 = -1", "steer 0 1", "pass 1",
            "steer 0 0", "start 1000 0", "compass 8 = 10024", "pass 1", "compass 1 = 0");
        C.test("the first quotient is rounded ahead of the second one", north, "start 3999 0", "pass 1",
            "compass 1 = -1", "start -3999 0", "pass 1", "compass 1 = 1", "start 4000 0", "pass 1", "compass 1 = -2");
        C.says("and then by T * D / 1000, with the T of then;");
        C.test("the damping: 99 stays, 100 does not", "set RATE 1", "damp 1", "start 0 99", "pass 1",
            "compass 1 = 99", "start 0 100", "pass 1", "compass 1 = 99", "start 0 199", "pass 1", "compass 1 = 198",
            "start 0 200", "pass 1", "compass 1 = 198");
        C.test("the damping is rounded toward 0 below 0", "set RATE 1", "damp 1", "start 0 -99", "pass 1",
            "compass 1 = -99", "start 0 -100", "pass 1", "compass 1 = -99", "start 0 -199", "pass 1",
            "compass 1 = -198");
        C.test("the T of then is the one behind the first decrease", "damp 4", "start 100000 0", "pass 1",
            "compass 1 = -1840", "start 100000 2000", "pass 1", "compass 1 = 0");
        C.says("Then A increases by RATE * T / 1000");
        C.test("the error: 999 thousandths are nothing", "set RATE 1", "damp 0", "start 0 999", "pass 1",
            "compass 0 = 0", "start 0 1000", "pass 1", "compass 0 = 1", "start 0 1999", "pass 1", "compass 0 = 1");
        C.test("the error is rounded toward 0 below 0", "set RATE 1", "damp 0", "start 0 -999", "pass 1",
            "compass 0 = 0", "start 0 -1000", "pass 1", "compass 0 = -1", "start 0 -1999", "pass 1",
            "compass 0 = -1");
        C.test("the T behind the damping moves the error", "set RATE 1000", "damp 4", "start 0 1000", "pass 1",
            "compass 1 = 920", "compass 0 = 920");
    }

    private static void tiltIsLimited() {
        C.says("T is limited to -900000 to 900000 behind both.");
        C.test("T may be 900000", STEEP, "start -890479 100000", "pass 8", "compass 1 = 811353", "pass 1",
            "compass 1 = 900000", "compass 0 = -885579");
        C.test("T may be -900000", STEEP, "start 890479 -100000", "pass 8", "compass 1 = -811353", "pass 1",
            "compass 1 = -900000", "compass 0 = 885579");
        C.test("900001 becomes 900000", STEEP, "start -729232 100000", "pass 11", "compass 1 = 900000",
            "pass 1", "compass 1 = 900000");
        C.test("-900001 becomes -900000", STEEP, "start 729232 -100000", "pass 11", "compass 1 = -900000",
            "pass 1", "compass 1 = -900000");
        // 900000 + 88557, less 79084, is 909473; with a limit between both it would be 828000.
        C.test("the limit is behind both decreases", STEEP, "start -890479 100000", "pass 9", "damp 4", "pass 1",
            "compass 1 = 900000");
        C.test("the limit is behind both decreases, below 0", STEEP, "start 890479 -100000", "pass 9", "damp 4",
            "pass 1", "compass 1 = -900000");
        // 900000 + 885, less 72070; with a limit between both it would be 828000.
        C.test("between both there is no limit", STEEP, "start -890479 100000", "pass 9", "damp 4", "set GAIN 1",
            "pass 1", "compass 1 = 828815");
        C.test("between both there is no limit, below 0", STEEP, "start 890479 -100000", "pass 9", "damp 4",
            "set GAIN 1", "pass 1", "compass 1 = -828815");
    }

    private static void errorIsLimited() {
        C.says("Then A increases by RATE * T / 1000, and is limited to -1800000 to 1800000.");
        C.test("A may be 1799999", Cases.STILL, "start 14574 100000", "pass 18", "compass 0 = 1716872", "pass 1",
            "compass 0 = 1799999");
        C.test("A may be 1800000", Cases.STILL, "start 14575 100000", "pass 19", "compass 0 = 1800000");
        C.test("1800001 becomes 1800000", Cases.STILL, "start 14576 100000", "pass 18", "compass 0 = 1716874",
            "pass 1", "compass 0 = 1800000", "compass 1 = 83127", "pass 1", "compass 0 = 1800000");
        C.test("A may be -1800000", Cases.STILL, "start -14575 -100000", "pass 19", "compass 0 = -1800000");
        C.test("-1800001 becomes -1800000", Cases.STILL, "start -14576 -100000", "pass 19", "compass 0 = -1800000",
            "compass 1 = -83127", "pass 1", "compass 0 = -1800000");
    }

    private static void direction() {
        C.says("If A has changed in this minute: its direction is 1 if it has increased, otherwise -1.");
        C.test("an increase by 1", Cases.STILL, "start 0 1", "pass 1", "compass 0 = 1", "compass 3 = 1");
        C.test("a decrease by 1", Cases.STILL, "start 0 -1", "pass 1", "compass 0 = -1", "compass 3 = -1");
        C.test("no change of A, no direction", Cases.STILL, "start 7 0", "pass 9", "compass 0 = 7", "compass 3 = 0");
        C.test("no change of A leaves the direction", Cases.STILL, "start 0 1", "pass 1", "start 7 0", "pass 9 = 0",
            "compass 3 = 1", "start 0 -1", "pass 1 = 1", "start 7 0", "pass 9 = 0", "compass 3 = -1");
        C.test("A that stays at its limit has not changed", Cases.STILL, "start 900000 100000", "pass 58 = 0",
            "compass 0 = 1800000", "compass 1 = 284", "compass 3 = 1", "pass 1 = 1", "compass 3 = -1",
            "turn 0 0 = 1800000", "turn 0 1 = 58");
        C.test("a tilt that is not enough for a change", "set RATE 1", "damp 0", "start 0 999", "pass 1",
            "compass 3 = 0", "start 0 1000", "pass 1", "compass 3 = 1", "start 0 -999", "pass 1 = 0",
            "compass 3 = 1");
    }

    private static void directionBefore() {
        C.says("If the direction before (of the latest minute in which A changed) was the other one, the A ahead of"
            + " this minute is a turning point, with the number of minutes that had passed then (the time ahead of"
            + " this minute).");
        C.test("the first direction is no turning point", Cases.STILL, "start 0 1", "pass 1 = 0", "state 13 = 0");
        C.test("the same direction is none", Cases.STILL, "start 0 1", "pass 2 = 0", "start 500 7", "pass 2 = 0");
        C.test("from 1 to -1", Cases.STILL, "start 0 5", "pass 3", "start 700 -2", "pass 2 = 1", "turn 0 0 = 700",
            "turn 0 1 = 3");
        C.test("from -1 to 1", Cases.STILL, "start 0 -5", "pass 3", "start -700 2", "pass 2 = 1", "turn 0 0 = -700",
            "turn 0 1 = 3");
        C.test("minutes without a change between them", Cases.STILL, "start 0 5", "pass 2", "start 300 0",
            "pass 4 = 0", "start 300 -1", "pass 1 = 1", "turn 0 0 = 300", "turn 0 1 = 6");
        C.test("a turning point at the time 1", Cases.STILL, "start 0 5", "pass 1", "start 5 -5", "pass 1 = 1",
            "turn 0 1 = 1");
        C.test("a turning point in the last minute of all", "166 x pass 600", Cases.STILL, "start 0 1", "pass 399",
            "start 9 -1", "pass 1 = 1", "turn 0 0 = 9", "turn 0 1 = 99999", "state 0 = 100000");
        C.test("in every minute", Cases.turned(1, 2, 3, 4, 5, 6, 7, 8, 9, 10), "state 13 = 8", "state 14 = 10",
            "turn 0 1 = 10", "turn 7 1 = 3", "turn 7 0 = 3");
    }

    private static void latitude() {
        C.says("The latitude increases by speed * 28 * cos(course) / 1000000, and is limited to its range.");
        C.test("the latitude ends at 70000000", "place 69", "steer 0 400", "pass 89", "compass 8 = 69996800",
            "pass 1", "compass 8 = 70000000", "pass 1", "compass 8 = 70000000", "state 5 = 36400");
        C.test("the latitude ends at -70000000", "place -69", "steer 18000 400", "pass 89", "compass 8 = -69996800",
            "pass 1", "compass 8 = -70000000", "pass 1", "compass 8 = -70000000", "state 5 = 36400");
        C.test("the last step just to 70000000", "place 69", "steer 0 400", "pass 89", "steer 0 98", "pass 1",
            "steer 4500 1", "pass 23", "compass 8 = 69999981", "pass 1", "compass 8 = 70000000", "pass 1",
            "compass 8 = 70000000");
        C.test("the last step just to -70000000", "place -69", "steer 18000 400", "pass 89", "steer 18000 98",
            "pass 1", "steer 13500 1", "pass 23", "compass 8 = -69999981", "pass 1", "compass 8 = -70000000");
        C.test("back from 70000000", "place 70", "steer 0 400", "pass 5", "steer 18000 1", "pass 1",
            "compass 8 = 69999972");
        C.test("back from -70000000", "place -70", "steer 18000 400", "pass 5", "steer 0 1", "pass 1",
            "compass 8 = -69999972");
        C.test("across 0", "steer 0 1", "pass 1", "steer 18000 2", "pass 1", "compass 8 = -28");
        C.test("no speed", "steer 0 0", "pass 600", "compass 8 = 0");
        C.test("east and west", "steer 9000 400", "pass 600", "compass 8 = 0", "steer 27000 400", "pass 600",
            "compass 8 = 0");
    }

    private static void latitudeIsRounded() {
        C.says("Divisions are rounded toward 0.");
        C.test("19.76 is 19 to the north", "steer 4500 1", "pass 1", "compass 8 = 19", "pass 1", "compass 8 = 38");
        C.test("19.76 is 19 to the south", "steer 13500 1", "pass 1", "compass 8 = -19", "pass 1",
            "compass 8 = -38");
        C.test("just less than 28 is 27", "steer 35999 1", "pass 1", "compass 8 = 27", "steer 1 1", "pass 1",
            "compass 8 = 54", "steer 0 1", "pass 1", "compass 8 = 82");
        C.test("just less than 28 is 27 to the south", "steer 18001 1", "pass 1", "compass 8 = -27", "steer 17999 1",
            "pass 1", "compass 8 = -54", "steer 18000 1", "pass 1", "compass 8 = -82");
        C.test("less than 1 is nothing", "steer 9001 201", "pass 1", "compass 8 = 0", "steer 9001 202", "pass 1",
            "compass 8 = -1", "steer 8999 201", "pass 1", "compass 8 = -1", "steer 8999 202", "pass 1",
            "compass 8 = 0");
    }

    private static void counters() {
        C.says("The time increases by 1, and the minutes at the present damping level, too; the way increases by the"
            + " speed.");
        C.test("each level counts its own minutes", "set WAIT 0", "damp 0", "pass 1", "damp 1", "pass 2", "damp 2",
            "pass 3", "damp 3", "pass 4", "damp 4", "pass 5", "state 8 = 1", "state 9 = 2", "state 10 = 3",
            "state 11 = 4", "state 12 = 5", "state 0 = 15");
        C.test("the way by the least and the greatest speed", "steer 0 0", "pass 600", "state 5 = 0", "steer 0 1",
            "pass 1", "state 5 = 1", "steer 0 400", "pass 600", "state 5 = 240001");
        C.test("the greatest way", "steer 9000 400", "166 x pass 600", "pass 400", "state 5 = 40000000",
            "state 10 = 100000");
    }
    private static void whatItChanges() {
        C.says("Lets minutes pass. This is a change.");
        C.only("a minute: time, way and leg, the minutes at the level and since it was changed, A, T, latitude",
            Cases.RICH, "pass 1", "state 0", "state 4", "state 5", "state 7", "state 11", "compass 0", "compass 1",
            "compass 8");
        C.only("a minute at rest without speed: the time, and the minutes at the level", Cases.RICH
            + "steer 0 0\nplace 0\ncorrect 0 0\nstart 0 0\n", "pass 1", "state 0", "state 7", "state 11");
        C.only("a minute with a turning point: what is about them, too", Cases.STILL + "start 0 1\npass 1\nstart 9 -1\n",
            "pass 1", "state 0", "state 7", "state 8", "state 13", "state 14", "compass 0", "compass 3",
            "turn 0 0", "turn 0 1");
        C.undone("undo takes all of them back", Cases.ROOM, "pass 600");
        C.test("600 minutes in one call are as many as in several", Cases.RICH, "pass 600", "compass 0 = 12698",
            "compass 1 = 24", "compass 8 = 40310760", "state 14 = 13");
        C.test("600 minutes in several calls are as many as in one", Cases.RICH, "pass 1", "pass 36", "pass 7",
            "pass 55", "pass 500", "pass 1", "compass 0 = 12698", "compass 1 = 24", "compass 8 = 40310760",
            "state 14 = 13");
        C.says("BAD_VALUE if minutes is out of range;");
        C.test("minutes out of range do not pass", Cases.RICH, "pass 601 ! BAD_VALUE", "pass 0 ! BAD_VALUE",
            "state 0 = 197");
    }

    private static void atRest() {
        C.says("The compass has an error A and a tilt T, and is at rest at the error R = E(latitude, speed, course) -"
            + " E(latitude that is set, speed that is set, course), where");
        C.test("there it stays", "place 50", "compass 2 = 17871", "start 17871 0", "pass 600 = 0", "compass 0 = 17871",
            "compass 1 = 0", "compass 3 = 0");
        C.test("in the south, too", "place -50", "compass 2 = -17871", "start -17871 0", "pass 600 = 0",
            "compass 0 = -17871", "compass 1 = 0");
        C.test("with correctors, too", "place 50", "correct 20 100", "steer 4500 0", "compass 2 = 17201",
            "start 17201 0", "pass 600 = 0", "compass 0 = 17201", "compass 1 = 0");
        C.test("elsewhere it does not stay", "place 50", "start 17970 0", "pass 1", "compass 1 = 0", "start 17973 0",
            "pass 1", "compass 1 = -1");
    }

    private static void units() {
        C.says("Speeds are in tenths of a knot.");
        C.test("an hour at 10 knots to the north is some ten minutes of arc", "steer 0 100", "pass 60",
            "compass 8 = 168000", "state 5 = 6000");
    }
}
