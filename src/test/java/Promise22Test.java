/** Promise 22, bestLevel: its cases. */
public final class Promise22Test {
    private static final Cases C = new Cases("promise 22, bestLevel");

    public static void main(String[] args) {
        ranges();
        most();
        levels();
        copies();
        errors();
        asItComes();
        C.end();
    }

    /** The tilt falls by its damping alone: by 0, 10, 20, 40 or 80 thousandths a minute. */
    private static String tilted(int tilt) {
        return "set GAIN 1\nset RATE 1\nstart 0 " + tilt + "\n";
    }

    /** A rest of 64 until the legs are done, with A and T at 0. */
    private static String slow(int minutes) {
        return Cases.STILL + "set LATE 0\nleg 18000 1 " + minutes + "\n";
    }

    private static void ranges() {
        C.says("`bound`: 0 to 100000");
        C.test("the bound 0 is taken, -1 is refused", "bestLevel 0 1 ~ 0", "bestLevel -1 1 ! BAD_VALUE",
            "bestLevel MIN 1 ! BAD_VALUE");
        C.test("the bound 100000 is taken, 100001 is refused", "start 100000 100000", "bestLevel 100000 1 ~ 0",
            "bestLevel 100001 1 ! BAD_VALUE", "bestLevel MAX 1 ! BAD_VALUE");
        C.says("`most`: 1 to 500");
        C.test("1 minute is taken, 0 are refused", tilted(101), "bestLevel 100 1 ~ 1", "bestLevel 100 0 ! BAD_VALUE",
            "bestLevel 101 0 ! BAD_VALUE", "bestLevel 100 -1 ! BAD_VALUE", "bestLevel 100 MIN ! BAD_VALUE");
        C.test("500 minutes are taken, 501 are refused", slow(500), "bestLevel 63 500 ~ 0",
            "bestLevel 63 501 ! BAD_VALUE", "bestLevel 64 501 ! BAD_VALUE", "bestLevel 63 MAX ! BAD_VALUE");
    }

    private static void most() {
        C.says("NONE if it is not calm within most minutes with any of them.");
        C.test("in just as many as may be, and in one more", tilted(110), "bestLevel 100 2 ~ 4",
            "bestLevel 100 1 ~ NONE");
        C.test("in 499 and in 501 minutes", slow(499), "bestLevel 63 500 ~ 0", "bestLevel 63 498 ~ NONE", "steer 0 0",
            "leg 18000 1 501", "bestLevel 63 500 ~ NONE", "bestLevel 64 500 ~ 0");
        C.test("never", tilted(105), "bestLevel 0 500 ~ NONE");
        C.test("in 0 minutes", tilted(100), "bestLevel 100 1 ~ 0", "bestLevel 100 500 ~ 0");
    }

    private static void levels() {
        C.says("Finds the damping level with which the compass is calm soonest, if it is taken now (WAIT does not"
            + " matter).");
        C.test("the level 4, at one end", tilted(105), "bestLevel 100 500 ~ 4", "bestLevel 100 1 ~ 4");
        C.test("the level 0, at the other end", Cases.STILL, "start 500 -100", "bestLevel 100 500 ~ 0",
            "bestLevel 100 4 ~ 0", "bestLevel 100 3 ~ NONE");
        C.test("sooner by one minute", tilted(108), "bestLevel 99 2 ~ 4", "bestLevel 100 2 ~ 4", "bestLevel 100 1 ~ 4");
        C.test("sooner than the level above it", Cases.RICH, "bestLevel 500 500 ~ 3", "bestLevel 500 89 ~ 3",
            "bestLevel 500 88 ~ NONE");
        C.test("not at once behind a change of the level", "set WAIT 60", tilted(105), "damp 1",
            "damp 4 ! NOT_POSSIBLE", "bestLevel 100 1 ~ 4", "state 6 = 1");
        C.test("the present level is nothing to it", "set WAIT 0", tilted(105), "damp 4", "bestLevel 100 500 ~ 4",
            "damp 0", "bestLevel 100 500 ~ 4");
        C.says("Returns the level, of several the lowest one;");
        C.test("of all of them the level 0", "damp 3", "bestLevel 0 500 ~ 0");
        C.test("of 1 to 4 the level 1", tilted(101), "bestLevel 100 500 ~ 1");
        C.test("of 2 to 4 the level 2", tilted(102), "bestLevel 100 500 ~ 2");
        C.test("of 3 and 4 the level 3", tilted(104), "bestLevel 100 500 ~ 3");
        C.test("below 0, too", tilted(-104), "bestLevel 100 500 ~ 3");
    }

    private static void copies() {
        C.says("---- forecasts, in copies, whose time is not limited.");
        C.test("at the time 100000", "166 x pass 600", "pass 400", tilted(105), "bestLevel 100 500 ~ 4",
            "state 0 = 100000");
        C.test("across the time 100000", "166 x pass 600", "pass 399", slow(500), "bestLevel 63 500 ~ 0",
            "state 0 = 99999");
        C.test("it changes nothing, the history neither", Cases.RICH, "bestLevel 0 1 ~ NONE",
            "bestLevel 1500 500 ~ 1", "bestLevel 100000 500 ~ 0");
    }

    private static void errors() {
        C.says("NONE (-6) is not an error; it is returned only if no error applies.");
        C.test("out of range comes ahead of NONE", Cases.STILL, "start 1 0", "bestLevel 0 1 ~ NONE",
            "bestLevel 0 501 ! BAD_VALUE", "bestLevel 0 0 ! BAD_VALUE", "bestLevel -1 500 ! BAD_VALUE");
        C.says("BAD_VALUE if an argument is out of range;");
        C.test("a refused one changes nothing", Cases.RICH, "bestLevel -1 1 ! BAD_VALUE",
            "bestLevel 100001 1 ! BAD_VALUE", "bestLevel 0 0 ! BAD_VALUE", "bestLevel 0 501 ! BAD_VALUE");
    }
    private static void asItComes() {
        C.says("Finds the damping level with which the compass is calm soonest, if it is taken now (WAIT does not"
            + " matter).");
        C.test("the minutes that each level takes", Cases.RICH, "set WAIT 0", "damp 0", "calmIn 500 500 ~ NONE",
            "damp 1", "calmIn 500 500 ~ 444", "damp 2", "calmIn 500 500 ~ 240", "damp 3", "calmIn 500 500 ~ 89",
            "damp 4", "calmIn 500 500 ~ 90", "bestLevel 500 500 ~ 3", "damp 0", "bestLevel 500 500 ~ 3");
    }
}
