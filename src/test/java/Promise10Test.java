/** Promise 10, correct: its cases. */
public final class Promise10Test {
    private static final Cases C = new Cases("promise 10, correct");

    public static void main(String[] args) {
        ranges();
        whetherRestIsAnother();
        refused();
        whatItChanges();
        C.end();
    }

    private static void ranges() {
        C.says("`degrees`: the latitude, -70 to 70");
        C.test("70 degrees are taken, 71 are refused", "correct 70 0 = 1", "compass 9 = 70",
            "correct 71 0 ! BAD_VALUE", "correct MAX 0 ! BAD_VALUE", "compass 9 = 70", "state 21 = 1");
        C.test("-70 degrees are taken, -71 are refused", "correct -70 0 = 1", "compass 9 = -70",
            "correct -71 0 ! BAD_VALUE", "correct MIN 0 ! BAD_VALUE", "compass 9 = -70", "state 21 = 1");
        C.says("`speed`: 0 to 400");
        C.test("the speed 400 is taken, 401 is refused", "correct 0 400 = 1", "state 18 = 400",
            "correct 0 401 ! BAD_VALUE", "correct 0 MAX ! BAD_VALUE", "state 18 = 400", "state 21 = 1");
        C.test("the speed 0 is taken, -1 is refused", "correct 0 7", "correct 0 0 = 1", "state 18 = 0",
            "correct 0 -1 ! BAD_VALUE", "correct 0 MIN ! BAD_VALUE", "state 18 = 0", "state 21 = 2");
    }

    private static void whetherRestIsAnother() {
        C.says("Returns 1 if R is another one then than ahead of this call, otherwise 0;");
        C.test("what is set already", "correct 0 0 = 0", "state 21 = 1", "correct 5 6 = 1", "correct 5 6 = 0");
        // 64 * 88 * 177 is just below 1000000, 64 * 89 * 177 is just above.
        C.test("another by 1, and another setting with the same one", "steer 9001 0", "correct 0 88 = 0",
            "state 18 = 88", "compass 2 = 0", "correct 0 89 = 1", "compass 2 = -1");
        C.test("eastwards the speed is nothing to it", "steer 9000 0", "correct 0 400 = 0", "state 18 = 400");
        C.test("nothing is late", "set LATE 0", "correct 50 0 = 0", "compass 9 = 50", "correct 50 1 = 1");
        C.test("to where it was", "correct 5 6 = 1", "correct 0 0 = 1", "compass 2 = 0");
        C.test("the other sign", "correct 5 0 = 1", "correct -5 0 = 1");
        C.says("(Speed and latitude can be set at the correctors; the course there is that of the ship.)");
        C.test("the ship's course counts", "steer 18000 0", "correct 0 400 = 1", "compass 2 = -25600", "steer 0 0",
            "compass 2 = 25600", "steer 9000 0", "compass 2 = 0");
    }

    private static void refused() {
        C.says("BAD_VALUE if an argument is out of range.");
        C.test("one argument out of range is enough, the other is not taken", "correct 5 6", "correct 7 401 ! BAD_VALUE",
            "correct 71 8 ! BAD_VALUE", "compass 9 = 5", "state 18 = 6");
        C.test("a refused one changes nothing, the history neither", Cases.RICH, "correct 71 0 ! BAD_VALUE",
            "correct -71 0 ! BAD_VALUE", "correct 0 401 ! BAD_VALUE", "correct 0 -1 ! BAD_VALUE",
            "correct 71 401 ! BAD_VALUE");
    }
    private static void whatItChanges() {
        C.says("Sets the correctors. This is a change.");
        C.only("what is set, and R with it", Cases.RICH, "correct 5 6", "compass 9", "state 18", "compass 2");
        C.only("nothing, to what is set", Cases.RICH + "correct 5 6\n", "correct 5 6");
        C.only("the speed alone", Cases.RICH, "correct -3 30", "state 18", "compass 2");
        C.only("the latitude alone", Cases.RICH, "correct 3 20", "compass 9", "compass 2");
        C.undone("undo takes it back", Cases.ROOM, "correct 5 6");
    }
}
