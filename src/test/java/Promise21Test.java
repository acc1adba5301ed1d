/** Promise 21, calmIn: its cases. */
public final class Promise21Test {
    private static final Cases C = new Cases("promise 21, calmIn");
    /** A rest of 64 until the legs are done, with A and T at 0. */
    private static final String SLOW = Cases.STILL + "set LATE 0\n3 x leg 18000 1 600\n";

    public static void main(String[] args) {
        bounds();
        most();
        calm();
        copies();
        errors();
        asItComes();
        C.end();
    }

    private static void bounds() {
        C.says("`bound`: 0 to 100000");
        C.test("the bound 0 is taken, -1 is refused", "calmIn 0 1 ~ 0", "calmIn -1 1 ! BAD_VALUE",
            "calmIn MIN 1 ! BAD_VALUE");
        C.test("the bound 100000 is taken, 100001 is refused", "start 100000 100000", "calmIn 100000 1 ~ 0",
            "calmIn 100001 1 ! BAD_VALUE", "calmIn MAX 1 ! BAD_VALUE");
        C.test("just beyond the greatest bound", "start 100001 0", "calmIn 100000 1 ~ 1");
    }

    private static void most() {
        C.says("`most`: 1 to 2000");
        C.test("1 minute is taken, 0 are refused", Cases.STILL, "start 500 -1", "calmIn 499 1 ~ 1",
            "calmIn 499 0 ! BAD_VALUE", "calmIn 500 0 ! BAD_VALUE", "calmIn 499 -1 ! BAD_VALUE",
            "calmIn 499 MIN ! BAD_VALUE");
        C.test("2000 minutes are taken, 2001 are refused", SLOW, "leg 18000 1 200", "calmIn 63 2000 ~ 2000",
            "calmIn 63 2001 ! BAD_VALUE", "calmIn 63 MAX ! BAD_VALUE");
        C.says("Returns the least number of minutes, from 0 on; BAD_VALUE if an argument is out of range; NONE if it"
            + " is greater than most.");
        C.test("in 0 minutes", Cases.STILL, "start 500 -1", "calmIn 500 1 ~ 0", "calmIn 500 2000 ~ 0");
        C.test("in just as many as may be, and in one more", Cases.STILL, "start 500 -1", "calmIn 100 400 ~ 400",
            "calmIn 100 399 ~ NONE", "calmIn 100 401 ~ 400");
        C.test("in one more than 1", Cases.STILL, "start 500 -1", "calmIn 498 1 ~ NONE", "calmIn 498 2 ~ 2");
        C.test("in 1999 minutes", SLOW, "leg 18000 1 199", "calmIn 63 2000 ~ 1999", "calmIn 63 1999 ~ 1999",
            "calmIn 63 1998 ~ NONE");
        C.test("in 2001 minutes", SLOW, "leg 18000 1 201", "calmIn 63 2000 ~ NONE");
        C.test("never", Cases.STILL, "start 1 0", "calmIn 0 2000 ~ NONE");
    }

    private static void calm() {
        C.says("the absolute values of A - R and of T are both at most a bound.");
        C.test("A is at the bound, and beyond it by 1", Cases.STILL, "start 7 0", "calmIn 7 5 ~ 0",
            "calmIn 6 5 ~ NONE", "start -7 0", "calmIn 7 5 ~ 0", "calmIn 6 5 ~ NONE");
        C.test("T is at the bound, and beyond it by 1", "set RATE 1", "damp 0", "start 0 7", "calmIn 7 5 ~ 0",
            "calmIn 6 5 ~ NONE", "start 0 -7", "calmIn 7 5 ~ 0", "calmIn 6 5 ~ NONE");
        C.test("both at the bound", "set RATE 1", "damp 0", "start 7 -7", "calmIn 7 5 ~ 0", "start -7 7",
            "calmIn 7 5 ~ 0");
        C.test("one of both is not enough", "set RATE 1", "damp 0", "start 7 8", "calmIn 7 5 ~ NONE", "start 8 7",
            "calmIn 7 5 ~ NONE");
        C.test("the difference to R counts, not A", "correct 0 400", "start 25600 0", "calmIn 0 1 ~ 0", "start 25593 0",
            "calmIn 7 1 ~ 0", "calmIn 6 1 ~ NONE", "start 25607 0", "calmIn 7 1 ~ 0", "calmIn 6 1 ~ NONE");
        C.test("R changes at once when a leg is done", SLOW, "calmIn 64 2000 ~ 0", "calmIn 63 1800 ~ 1800",
            "calmIn 63 1799 ~ NONE");
        C.test("R changes when the next leg is the first one", Cases.STILL, "leg 9000 400 3", "leg 18000 1 5",
            "start 64 0", "calmIn 0 10 ~ 3", "calmIn 0 2 ~ NONE");
    }

    private static void copies() {
        C.says("---- forecasts, in copies, whose time is not limited.");
        C.test("at the time 100000", "166 x pass 600", "pass 400", "set RATE 1", "start 0 101", "calmIn 100 1 ~ 1",
            "state 0 = 100000");
        C.test("across the time 100000", "166 x pass 600", "pass 399", SLOW, "leg 18000 1 200",
            "calmIn 63 2000 ~ 2000", "state 0 = 99999");
        C.test("it changes nothing, the history neither", Cases.RICH, "calmIn 0 1 ~ NONE", "calmIn 0 500 ~ NONE",
            "calmIn 100000 2000 ~ 0", "calmIn 500 2000 ~ 89");
        C.test("the full row of turning points stays", Cases.turned(1, 2, 3, 4, 5, 6, 7, 8), "set GAIN 100",
            "start 100000 0", "calmIn 0 300 ~ NONE", "state 14 = 8", "turn 7 0 = 1");
        C.test("the full row of legs stays", "8 x leg 18000 400 10", "calmIn 0 200 ~ NONE", "state 3 = 8",
            "state 4 = 10");
    }

    private static void errors() {
        C.says("NONE (-6) is not an error; it is returned only if no error applies.");
        C.test("out of range comes ahead of NONE", Cases.STILL, "start 1 0", "calmIn 0 1 ~ NONE",
            "calmIn 0 2001 ! BAD_VALUE", "calmIn 0 0 ! BAD_VALUE", "calmIn -1 2000 ! BAD_VALUE");
        C.says("BAD_VALUE if an argument is out of range;");
        C.test("out of range comes ahead of calm", "calmIn 100001 5 ! BAD_VALUE", "calmIn 0 2001 ! BAD_VALUE",
            "calmIn -1 0 ! BAD_VALUE");
        C.test("a refused one changes nothing", Cases.RICH, "calmIn -1 1 ! BAD_VALUE", "calmIn 100001 1 ! BAD_VALUE",
            "calmIn 0 0 ! BAD_VALUE", "calmIn 0 2001 ! BAD_VALUE");
    }
    private static void asItComes() {
        C.says("Tells in how many minutes the compass is calm:");
        C.test("a minute before it comes", Cases.RICH, "calmIn 500 2000 ~ 89", "pass 88", "calmIn 500 5 ~ 1");
        C.test("as it comes", Cases.RICH, "pass 89", "calmIn 500 5 ~ 0");
        C.test("with the present level", Cases.RICH, "damp 1", "calmIn 500 2000 ~ 444", "undo", "damp 4",
            "calmIn 500 2000 ~ 90");
    }
}
