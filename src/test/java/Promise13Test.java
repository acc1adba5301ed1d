/** Promise 13, guess: its cases. */
public final class Promise13Test {
    private static final Cases C = new Cases("promise 13, guess");

    public static void main(String[] args) {
        C.says("`error`: -1800000 to 1800000");
        C.test("1800000 is taken, 1800001 is refused", "guess 1800000 = 1800000", "guess 1800001 ! BAD_VALUE",
            "guess MAX ! BAD_VALUE", "state 17 = 1", "compass 10 = 1800000", "state 21 = 1");
        C.test("-1800000 is taken, -1800001 is refused", "guess -1800000 = 1800000", "guess -1800001 ! BAD_VALUE",
            "guess MIN ! BAD_VALUE", "state 17 = 1", "compass 10 = 1800000", "state 21 = 1");
        C.says("the absolute value of the difference to R is added to the sum of faults.");
        C.test("no difference", "guess 0 = 0", "state 17 = 1", "compass 10 = 0", "state 21 = 1");
        C.test("by 1 above and below", "place 50", "compass 2 = 17871", "guess 17871 = 0", "guess 17872 = 1",
            "guess 17870 = 1", "compass 10 = 2", "state 17 = 3");
        C.test("by 1 above and below a rest below 0", "place -50", "compass 2 = -17871", "guess -17871 = 0",
            "guess -17872 = 1", "guess -17870 = 1", "compass 10 = 2");
        C.test("the greatest difference to both sides", "set LATE 30000", "place -70", "steer 0 400", "correct 70 0",
            "compass 2 = -238782", "guess 1800000 = 2038782", "correct -70 0", "place 70", "steer 18000 400",
            "compass 2 = 238782", "guess -1800000 = 2038782", "compass 10 = 4077564");
        C.test("the error itself is nothing to it", "start 900000 0", "guess 900000 = 900000", "guess 0 = 0");
        C.says("Returns this absolute value; BAD_VALUE if error is out of range.");
        C.test("a refused one changes nothing, the history neither", Cases.RICH, "guess 1800001 ! BAD_VALUE",
            "guess -1800001 ! BAD_VALUE", "guess MIN ! BAD_VALUE", "guess MAX ! BAD_VALUE");
        C.says("Guesses the error at which the compass is at rest;");
        C.only("the guesses and the sum of faults, nothing else", Cases.RICH, "guess 5", "state 17", "compass 10");
        C.only("R itself: the guesses, nothing else", Cases.RICH, "guess 11739 = 0", "state 17");
        C.says("This is a change.");
        C.undone("undo takes it back", Cases.ROOM, "guess 5");
        C.end();
    }
}
