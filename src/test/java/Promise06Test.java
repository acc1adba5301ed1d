/** Promise 6, steer: its cases. */
public final class Promise06Test {
    private static final Cases C = new Cases("promise 6, steer");

    public static void main(String[] args) {
        ranges();
        dropsLegs();
        refused();
        whatItChanges();
        C.end();
    }

    private static void ranges() {
        C.says("`course`: 0 to 35999");
        C.test("the course 35999 is taken, 36000 is refused", "steer 35999 5 = 0", "state 1 = 35999",
            "steer 36000 5 ! BAD_VALUE", "steer MAX 5 ! BAD_VALUE", "state 1 = 35999", "state 21 = 1");
        C.test("the course 0 is taken, -1 is refused", "steer 7 5", "steer 0 5 = 0", "state 1 = 0",
            "steer -1 5 ! BAD_VALUE", "steer MIN 5 ! BAD_VALUE", "state 1 = 0", "state 21 = 2");
        C.says("`speed`: 0 to 400");
        C.test("the speed 400 is taken, 401 is refused", "steer 5 400 = 0", "state 2 = 400",
            "steer 5 401 ! BAD_VALUE", "steer 5 MAX ! BAD_VALUE", "state 2 = 400", "state 21 = 1");
        C.test("the speed 0 is taken, -1 is refused", "steer 5 7", "steer 5 0 = 0", "state 2 = 0",
            "steer 5 -1 ! BAD_VALUE", "steer 5 MIN ! BAD_VALUE", "state 2 = 0", "state 21 = 2");
    }

    private static void dropsLegs() {
        C.says("Returns the number of legs that were dropped;");
        C.test("an empty row of legs", "steer 1 2 = 0", "steer 1 2 = 0");
        C.test("one leg", "leg 3 4 5", "steer 1 2 = 1", "state 3 = 0", "state 4 = 0", "state 1 = 1", "state 2 = 2");
        C.test("the full row of legs", "8 x leg 3 4 5", "steer 1 2 = 8", "state 3 = 0", "steer 1 2 = 0",
            "leg 6 7 8 = 1", "state 1 = 6", "state 4 = 8");
        C.test("legs that are done do not count", "2 x leg 3 4 5", "pass 5", "steer 1 2 = 1");
        C.test("what is steered has no end", "leg 0 100 1", "steer 9000 3", "pass 600", "state 2 = 3",
            "state 1 = 9000", "state 5 = 1800");
    }

    private static void refused() {
        C.says("BAD_VALUE if an argument is out of range.");
        C.test("a refused one changes nothing, legs and history neither", Cases.RICH, "steer -1 0 ! BAD_VALUE",
            "steer 36000 0 ! BAD_VALUE", "steer 0 -1 ! BAD_VALUE", "steer 0 401 ! BAD_VALUE",
            "steer 36000 401 ! BAD_VALUE", "state 3 = 2");
    }
    private static void whatItChanges() {
        C.says("Steers: all legs are dropped, and the ship has a course and a speed from now on. This is a change.");
        C.only("course and speed, the legs, and R with them", Cases.RICH, "steer 1 2", "state 1", "state 2", "state 3",
            "state 4", "compass 2");
        C.only("without legs: course and speed, and R with them", Cases.RICH + "steer 5 6\n", "steer 1 2", "state 1",
            "state 2", "compass 2");
        C.only("nothing, to what is steered", Cases.RICH + "steer 1 2\n", "steer 1 2");
        C.undone("undo takes it back, and brings the legs", Cases.ROOM, "steer 1 2");
    }
}
