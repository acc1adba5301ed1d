/** Promise 7, leg: its cases. */
public final class Promise07Test {
    private static final Cases C = new Cases("promise 7, leg");

    public static void main(String[] args) {
        ranges();
        row();
        firstLeg();
        refused();
        whatItChanges();
        C.end();
    }

    private static void ranges() {
        C.says("`course`: 0 to 35999");
        C.test("the course 35999 is taken, 36000 is refused", "leg 35999 5 5 = 1", "state 1 = 35999",
            "leg 36000 5 5 ! BAD_VALUE", "leg MAX 5 5 ! BAD_VALUE", "state 3 = 1", "state 21 = 1");
        C.test("the course 0 is taken, -1 is refused", "steer 9 0", "leg 0 5 5 = 1", "state 1 = 0",
            "leg -1 5 5 ! BAD_VALUE", "leg MIN 5 5 ! BAD_VALUE", "state 3 = 1", "state 21 = 2");
        C.says("`speed`: 0 to 400");
        C.test("the speed 400 is taken, 401 is refused", "leg 5 400 5 = 1", "state 2 = 400",
            "leg 5 401 5 ! BAD_VALUE", "leg 5 MAX 5 ! BAD_VALUE", "state 3 = 1", "state 21 = 1");
        C.test("the speed 0 is taken, -1 is refused", "steer 0 9", "leg 5 0 5 = 1", "state 2 = 0",
            "leg 5 -1 5 ! BAD_VALUE", "leg 5 MIN 5 ! BAD_VALUE", "state 3 = 1", "state 21 = 2");
        C.says("`minutes`: 1 to 600");
        C.test("600 minutes are taken, 601 are refused", "leg 5 5 600 = 1", "state 4 = 600",
            "leg 5 5 601 ! BAD_VALUE", "leg 5 5 MAX ! BAD_VALUE", "state 3 = 1", "state 21 = 1");
        C.test("1 minute is taken, 0 are refused", "leg 5 5 1 = 1", "state 4 = 1", "leg 5 5 0 ! BAD_VALUE",
            "leg 5 5 -1 ! BAD_VALUE", "leg 5 5 MIN ! BAD_VALUE", "state 3 = 1", "state 21 = 1");
    }

    private static void row() {
        C.says("Returns the number of legs then; BAD_VALUE if an argument is out of range; TOO_MANY if there are 8.");
        C.test("the eighth one is taken, the ninth is refused", "7 x leg 100 10 2", "leg 200 20 3 = 8",
            "leg 300 30 4 ! TOO_MANY", "state 3 = 8", "pass 14", "state 3 = 1", "state 1 = 200", "state 2 = 20",
            "state 4 = 3", "pass 3", "state 3 = 0");
        C.test("there is room again when the first one is done", "8 x leg 100 10 2", "pass 1",
            "leg 300 30 4 ! TOO_MANY", "pass 1", "leg 300 30 4 = 8", "leg 300 30 4 ! TOO_MANY");
        C.test("there is room again when one is undone", "8 x leg 100 10 2", "undo", "leg 300 30 4 = 8",
            "leg 300 30 4 ! TOO_MANY");
        C.says("it names its errors in the order in which they are checked, and the first one that applies is"
            + " returned.");
        C.test("out of range comes ahead of the full row", "8 x leg 1 1 1", "leg 36000 0 1 ! BAD_VALUE",
            "leg -1 0 1 ! BAD_VALUE", "leg 0 401 1 ! BAD_VALUE", "leg 0 -1 1 ! BAD_VALUE", "leg 0 0 0 ! BAD_VALUE",
            "leg 0 0 601 ! BAD_VALUE", "leg 0 0 1 ! TOO_MANY");
    }

    private static void firstLeg() {
        C.says("the ship has its course and its speed, as soon as it is the first one.");
        C.test("in the empty row it is sailed at once", "steer 1 2", "leg 300 40 5 = 1", "state 1 = 300",
            "state 2 = 40", "state 4 = 5");
        C.test("behind another one it is not", "leg 300 40 5", "leg 600 70 8 = 2", "state 1 = 300", "state 2 = 40",
            "state 4 = 5");
        C.test("when the one before is done, it is at once", "leg 300 40 5", "leg 600 70 8", "pass 4",
            "state 1 = 300", "pass 1", "state 1 = 600", "state 2 = 70", "state 4 = 8", "state 3 = 1");
    }

    private static void refused() {
        C.says("A call that returns an error changes nothing.");
        C.test("a refused one changes nothing, the history neither", Cases.RICH, "leg 36000 0 1 ! BAD_VALUE",
            "leg -1 0 1 ! BAD_VALUE", "leg 0 401 1 ! BAD_VALUE", "leg 0 -1 1 ! BAD_VALUE", "leg 0 0 0 ! BAD_VALUE",
            "leg 0 0 601 ! BAD_VALUE", "6 x leg 3 4 5", "leg 0 0 1 ! TOO_MANY");
        C.test("a refused first leg is not sailed", "steer 1 2", "leg 300 40 0 ! BAD_VALUE", "state 1 = 1",
            "state 2 = 2", "state 3 = 0");
    }
    private static void whatItChanges() {
        C.says("Adds a leg behind all others. This is a change.");
        C.only("a leg more, nothing else", Cases.RICH, "leg 1 2 3", "state 3");
        C.undone("undo takes it back", Cases.ROOM, "leg 1 2 3");
        C.test("behind all others", "leg 100 10 1", "leg 200 20 2", "leg 300 30 3", "pass 1", "leg 400 40 4 = 3",
            "state 1 = 200", "pass 2", "state 1 = 300", "pass 3", "state 1 = 400", "state 2 = 40", "state 4 = 4",
            "pass 4", "state 3 = 0");
        C.says("A leg has a course, a speed, and minutes (1 to 600). If there are legs, the first one is sailed:");
        C.only("the first one: course, speed, minutes, and R with them", Cases.RICH + "steer 100 20\n", "leg 1 2 3",
            "state 1", "state 2", "state 3", "state 4", "compass 2");
        C.undone("undo takes the first one back, with its course and speed", Cases.ROOM + "steer 100 20\n",
            "leg 1 2 3");
    }
}
