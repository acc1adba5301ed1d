/** Promise 19, wave: its cases. */
public final class Promise19Test {
    private static final Cases C = new Cases("promise 19, wave");

    public static void main(String[] args) {
        C.says("`course`: 0 to 35999");
        C.test("the course 0 is taken, -1 is refused", "wave 0 0 ~ 0", "wave 0 1 ~ 1000000",
            "wave -1 0 ! BAD_VALUE-GONE", "wave -1 1 ! BAD_VALUE-GONE", "wave MIN 0 ! BAD_VALUE-GONE",
            "wave MIN 1 ! BAD_VALUE-GONE");
        C.test("the course 35999 is taken, 36000 is refused", "wave 35999 0 ~ -177", "wave 35999 1 ~ 999999",
            "wave 36000 0 ! BAD_VALUE-GONE", "wave 36000 1 ! BAD_VALUE-GONE", "wave MAX 0 ! BAD_VALUE-GONE",
            "wave MAX 1 ! BAD_VALUE-GONE");
        C.says("`which`: 0 the sine, 1 the cosine");
        C.test("0 and 1 are taken, -1 and 2 are refused", "wave 3000 0 ~ 500000", "wave 3000 1 ~ 864864",
            "wave 3000 -1 ! BAD_VALUE-GONE", "wave 3000 2 ! BAD_VALUE-GONE", "wave 3000 MIN ! BAD_VALUE-GONE",
            "wave 3000 MAX ! BAD_VALUE-GONE");
        C.test("both arguments out of range", "wave -1 -1 ! BAD_VALUE-GONE", "wave 36000 2 ! BAD_VALUE-GONE");
        C.says("The sine of a course x from 0 to 18000 is 4000000 * u / (405000000 - u) with u = x * (18000 - x);"
            + " that of a course x from 18001 to 35999 is minus that of x - 18000.");
        C.test("the sine at 18000 and on both sides of it", "wave 17999 0 ~ 177", "wave 18000 0 ~ 0",
            "wave 18001 0 ~ -177");
        C.test("the sine at 9000 and on both sides of it", "wave 8999 0 ~ 999999", "wave 9000 0 ~ 1000000",
            "wave 9001 0 ~ 999999");
        C.test("the sine at 27000 and on both sides of it", "wave 26999 0 ~ -999999", "wave 27000 0 ~ -1000000",
            "wave 27001 0 ~ -999999");
        C.test("the sine where a constant that is another by 1 would show", "wave 2018 0 ~ 346096",
            "wave 2069 0 ~ 354384", "wave 163 0 ~ 28923", "wave 75 0 ~ 13321");
        C.test("the sine is rounded toward 0 on both sides of 0", "wave 1 0 ~ 177", "wave 4500 0 ~ 705882",
            "wave 22500 0 ~ -705882");
        C.says("The cosine of x is the sine of (x + 9000) mod 36000.");
        C.test("the cosine wraps around at 27000", "wave 26999 1 ~ -177", "wave 27000 1 ~ 0", "wave 27001 1 ~ 177");
        C.test("the cosine at 9000 and on both sides of it", "wave 8999 1 ~ 177", "wave 9000 1 ~ 0",
            "wave 9001 1 ~ -177");
        C.test("the cosine at 18000 and on both sides of it", "wave 17999 1 ~ -999999", "wave 18000 1 ~ -1000000",
            "wave 18001 1 ~ -999999");
        C.says("Returns the number; BAD_VALUE minus GONE if an argument is out of range.");
        C.test("looking changes nothing", Cases.RICH, "wave -1 0 ! BAD_VALUE-GONE", "wave 36000 1 ! BAD_VALUE-GONE",
            "wave 0 2 ! BAD_VALUE-GONE", "wave 4500 1 ~ 705882");
        C.says("Returns the sine or the cosine of a course.");
        C.test("north, east, south and west", "wave 0 0 ~ 0", "wave 0 1 ~ 1000000", "wave 9000 0 ~ 1000000",
            "wave 9000 1 ~ 0", "wave 18000 0 ~ 0", "wave 18000 1 ~ -1000000", "wave 27000 0 ~ -1000000",
            "wave 27000 1 ~ 0");
        C.end();
    }
}
