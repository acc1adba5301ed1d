/** Promise 4, place: its cases. */
public final class Promise04Test {
    private static final Cases C = new Cases("promise 4, place");

    public static void main(String[] args) {
        range();
        legs();
        refused();
        whatItChanges();
        units();
        C.end();
    }

    private static void range() {
        C.says("`degrees`: -70 to 70");
        C.test("70 is taken, 71 is refused", "place 70 = 0", "compass 8 = 70000000", "place 71 ! BAD_VALUE",
            "place MAX ! BAD_VALUE", "compass 8 = 70000000", "state 21 = 1");
        C.test("-70 is taken, -71 is refused", "place -70 = 0", "compass 8 = -70000000", "place -71 ! BAD_VALUE",
            "place MIN ! BAD_VALUE", "compass 8 = -70000000", "state 21 = 1");
        C.test("0 is taken", "place 5", "place 0 = 0", "compass 8 = 0", "state 21 = 2");
        C.test("degrees whose millions are too great for an int", "place 2148 ! BAD_VALUE",
            "place 4295 ! BAD_VALUE", "place -4295 ! BAD_VALUE", "place 1073741824 ! BAD_VALUE");
    }

    private static void legs() {
        C.says("NOT_POSSIBLE if there are legs.");
        C.test("one leg", "leg 0 0 600", "place 0 ! NOT_POSSIBLE", "place 70 ! NOT_POSSIBLE");
        C.test("eight legs", "8 x leg 100 10 1", "place 70 ! NOT_POSSIBLE");
        C.test("the last minute of the last leg", "leg 9000 10 2", "pass 1", "place 7 ! NOT_POSSIBLE", "pass 1",
            "place 7 = 0", "compass 8 = 7000000");
        C.test("legs that were dropped", "leg 0 10 2", "place 7 ! NOT_POSSIBLE", "steer 9000 5", "place 7 = 0");
        C.test("a leg that was undone", "leg 0 10 2", "undo", "place 7 = 0");
        C.test("a ship under way without legs", "steer 9000 400", "place 7 = 0", "state 2 = 400", "state 1 = 9000");
        C.says("it names its errors in the order in which they are checked, and the first one that applies is"
            + " returned.");
        C.test("out of range comes ahead of the legs", "leg 0 0 1", "place 71 ! BAD_VALUE", "place -71 ! BAD_VALUE",
            "place 70 ! NOT_POSSIBLE");
    }

    private static void refused() {
        C.says("Returns the number of legs; BAD_VALUE if degrees is out of range;");
        C.test("a refused one changes nothing, the history neither", Cases.RICH, "place 71 ! BAD_VALUE",
            "place -71 ! BAD_VALUE", "place 70 ! NOT_POSSIBLE", "place 0 ! NOT_POSSIBLE");
    }
    private static void whatItChanges() {
        String run = Cases.RICH + "steer 100 20\n";
        C.says("Puts the ship to a latitude. This is a change.");
        C.only("the latitude, and R with it", run, "place -7", "compass 8", "compass 2");
        C.only("nothing, to where it is", run + "place -7\n", "place -7");
        C.undone("undo takes it back", Cases.ROOM + "steer 100 20\n", "place -7");
    }

    private static void units() {
        C.says("Errors, rests and tilts are in ten-thousandths of a degree, courses and bearings in hundredths of a"
            + " degree (0 to 35999), latitudes in millionths of a degree (north is positive).");
        C.test("a degree of latitude", "place 1", "compass 8 = 1000000", "place -1", "compass 8 = -1000000");
        C.test("the course 0 leads to the north, the course 18000 to the south", "steer 0 10", "pass 1",
            "compass 8 = 280", "steer 18000 20", "pass 1", "compass 8 = -280");
    }
}
