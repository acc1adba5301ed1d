/** Promise 20, restAt: its cases. */
public final class Promise20Test {
    private static final Cases C = new Cases("promise 20, restAt");

    public static void main(String[] args) {
        ranges();
        rounding();
        settings();
        C.end();
    }

    private static void ranges() {
        C.says("`degrees`: the latitude, -70 to 70");
        C.test("70 degrees are taken, 71 are refused", "restAt 70 0 0 ~ 41045", "restAt 71 0 0 ! BAD_VALUE-GONE",
            "restAt MAX 0 0 ! BAD_VALUE-GONE");
        C.test("-70 degrees are taken, -71 are refused", "restAt -70 0 0 ~ -41045", "restAt -71 0 0 ! BAD_VALUE-GONE",
            "restAt MIN 0 0 ! BAD_VALUE-GONE");
        C.says("`speed`: 0 to 400");
        C.test("the speed 400 is taken, 401 is refused", "restAt 0 400 0 ~ -25600", "restAt 0 401 0 ! BAD_VALUE-GONE",
            "restAt 0 MAX 0 ! BAD_VALUE-GONE");
        C.test("the speed 0 is taken, -1 is refused", "restAt 0 0 0 ~ 0", "restAt 0 -1 0 ! BAD_VALUE-GONE",
            "restAt 0 MIN 0 ! BAD_VALUE-GONE");
        C.says("`course`: 0 to 35999");
        C.test("the course 35999 is taken, 36000 is refused", "restAt 0 400 35999 ~ -25599",
            "restAt 0 400 36000 ! BAD_VALUE-GONE", "restAt 0 400 MAX ! BAD_VALUE-GONE");
        C.test("the course 0 is taken, -1 is refused", "restAt 0 400 0 ~ -25600", "restAt 0 400 -1 ! BAD_VALUE-GONE",
            "restAt 0 400 MIN ! BAD_VALUE-GONE");
        C.says("Returns E; BAD_VALUE minus GONE if an argument is out of range.");
        C.test("looking changes nothing", Cases.RICH, "restAt 71 0 0 ! BAD_VALUE-GONE",
            "restAt 0 401 0 ! BAD_VALUE-GONE", "restAt 0 0 36000 ! BAD_VALUE-GONE", "restAt 70 400 18000 ~ 115645");
    }

    private static void rounding() {
        C.says("each of the two quotients is rounded by itself.");
        C.test("the quotients are rounded by themselves", "restAt -70 1 0 ~ -41231", "restAt -70 3 4500 ~ -41439",
            "restAt 70 7 18000 ~ 42350", "restAt 70 100 4500 ~ 27881");
        C.test("the first quotient is rounded toward 0 below 0", "restAt 1 0 0 ~ 266", "restAt -1 0 0 ~ -266");
        C.test("the second quotient is rounded toward 0 on both sides", "restAt 0 1 9001 ~ 0", "restAt 0 1 8999 ~ 0",
            "restAt 0 88 9001 ~ 0", "restAt 0 89 9001 ~ 1", "restAt 0 88 8999 ~ 0", "restAt 0 89 8999 ~ -1");
        C.says("E(f, v, c) = LATE * sin(f) / cos(f) - (64 * v * cos(c)) / cos(f);");
        C.test("amounts of -1 to -6 are no errors", "set LATE 0", "restAt 0 89 8999 ~ -1", "restAt 0 177 8999 ~ -2");
    }

    private static void settings() {
        C.says("LATE (0 to 30000; 15000)");
        C.test("the least and the greatest LATE", "set LATE 0", "restAt 70 0 0 ~ 0", "restAt -70 400 0 ~ -74600",
            "set LATE 30000", "restAt 70 0 0 ~ 82091", "restAt -70 400 0 ~ -156691", "restAt 70 400 18000 ~ 156691");
        C.says("Returns the error at which the compass would be at rest without correctors.");
        C.test("the correctors and the ship are nothing to it", "correct 70 400", "place -70", "steer 18000 400",
            "restAt 1 0 0 ~ 266");
    }
}
