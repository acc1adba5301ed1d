/** Promise 16, check: its cases. */
public final class Promise16Test {
    private static final Cases C = new Cases("promise 16, check");

    public static void main(String[] args) {
        C.says("Returns the difference; NO_SUCH minus GONE if there is no such check.");
        C.test("an empty row", "check 0 ! NO_SUCH-GONE", "check -1 ! NO_SUCH-GONE", "check 1 ! NO_SUCH-GONE",
            "check MIN ! NO_SUCH-GONE", "check MAX ! NO_SUCH-GONE");
        C.test("one: 0 is taken, 1 and -1 are refused", Cases.checked(77), "check 0 ~ 77", "check 1 ! NO_SUCH-GONE",
            "check -1 ! NO_SUCH-GONE");
        C.says("`index`: 0 for the latest one");
        C.test("two: the latest one is 0", Cases.checked(77, 88), "check 0 ~ 88", "check 1 ~ 77",
            "check 2 ! NO_SUCH-GONE");
        C.says("The 5 latest checks are kept.");
        C.test("four", Cases.checked(1, 2, 3, 4), "check 3 ~ 1", "check 4 ! NO_SUCH-GONE", "state 15 ~ 4");
        C.test("the full row: 4 is taken, 5 is refused", Cases.checked(1, 2, 3, 4, 5), "check 4 ~ 1", "check 0 ~ 5",
            "check 5 ! NO_SUCH-GONE", "check MAX ! NO_SUCH-GONE", "check MIN ! NO_SUCH-GONE", "state 15 ~ 5");
        C.test("one more than the full row drops the oldest", Cases.checked(1, 2, 3, 4, 5, 6), "check 4 ~ 2",
            "check 0 ~ 6", "check 5 ! NO_SUCH-GONE", "state 15 ~ 5", "state 16 ~ 6");
        C.test("forgetSwings leaves the full row", Cases.checked(1, 2, 3, 4, 5), "forgetSwings", "check 4 ~ 1",
            "check 0 ~ 5");
        C.says("Methods that return amounts that can be negative return error codes and NONE minus GONE, where GONE"
            + " is 1000000000.");
        C.test("a difference of -1 is no NO_SUCH", Cases.checked(-1), "check 0 ~ -1");
        C.test("the greatest difference and the least one", Cases.STILL, "set NOISE 500", "line 0",
            "start 900000 100000", "pass 20", "set SEED 1380", "observe 0", "start -900000 -100000", "pass 20",
            "set SEED 653", "observe 0", "check 0 ~ -18500", "check 1 ~ 18500");
        C.says("A call that returns an error changes nothing.");
        C.test("looking changes nothing", Cases.RICH, "check -1 ! NO_SUCH-GONE", "check 4 ! NO_SUCH-GONE",
            "check MIN ! NO_SUCH-GONE");
        C.says("Returns a check that is kept.");
        C.test("all that are kept", Cases.checked(11, -22, 33), "check 0 ~ 33", "check 1 ~ -22", "check 2 ~ 11");
        C.test("the difference, not the bearing", "set NOISE 0", "line 9000", "start 700 0", "observe 0 = 9007",
            "check 0 ~ 7");
        C.end();
    }
}
