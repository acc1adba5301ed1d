/** Promise 11, forgetSwings: its cases. */
public final class Promise11Test {
    private static final Cases C = new Cases("promise 11, forgetSwings");

    public static void main(String[] args) {
        C.says("Returns the number of turning points that were kept.");
        C.test("an empty row", "forgetSwings = 0", "state 21 = 1", "forgetSwings = 0", "state 21 = 2");
        C.test("one turning point", Cases.turned(5), "forgetSwings = 1", "state 13 = 0", "turn 0 0 ! NO_SUCH-GONE",
            "forgetSwings = 0");
        C.test("the full row", Cases.turned(1, 2, 3, 4, 5, 6, 7, 8), "forgetSwings = 8", "state 13 = 0",
            "forgetSwings = 0");
        C.test("one more than the full row: those that are kept count", Cases.turned(1, 2, 3, 4, 5, 6, 7, 8, 9),
            "forgetSwings = 8", "state 13 = 0", "state 14 = 9");
        C.says("forgetSwings() drops them, and the direction.");
        C.test("the direction is none then", Cases.turned(5), "compass 3 = -1", "forgetSwings", "compass 3 = 0");
        C.test("the next direction is no turning point, the one behind it is", Cases.turned(5), "forgetSwings",
            "start 0 1", "pass 1 = 0", "compass 3 = 1", "start 7 -1", "pass 1 = 1", "turn 0 0 = 7", "state 13 = 1");
        C.test("a direction without turning points is dropped, too", Cases.STILL, "start 0 1", "pass 1",
            "forgetSwings = 0", "compass 3 = 0", "start 0 -1", "pass 1 = 0");
        C.test("three new ones settle it again", Cases.turned(1, 2, 3), "forgetSwings", "reason = 1",
            "compass 4 = NONE-GONE", "compass 5 = NONE-GONE", "compass 6 = NONE-GONE", "start 0 1", "pass 1",
            "start 100 -1", "pass 1 = 1", "compass 6 = NONE-GONE", "start 200 1", "pass 1 = 1", "compass 6 = 100",
            "compass 4 = NONE-GONE", "start 300 -1", "pass 1 = 1", "compass 4 = 200", "compass 5 = 150");
        C.says("Drops all turning points and the direction.");
        C.test("nothing else is dropped", Cases.checked(3), Cases.turned(5), "forgetSwings", "state 14 = 1",
            "state 15 = 1", "check 0 = 3", "state 0 = 2", "compass 0 = 4");
        C.test("undo brings the full row and the direction back", Cases.turned(1, 2, 3, 4, 5, 6, 7, 8),
            "forgetSwings = 8", "undo", "state 13 = 8", "turn 7 0 = 1", "turn 0 0 = 8", "compass 3 = 1");
        C.says("This is a change.");
        C.only("turning points, what is told from them, and the direction", Cases.RICH, "forgetSwings", "state 13",
            "compass 3", "compass 4", "compass 5", "compass 6", "turn 0 0", "turn 0 1", "turn 1 0", "turn 1 1",
            "turn 2 0", "turn 2 1");
        C.only("nothing, when all are forgotten", Cases.RICH + "forgetSwings\n", "forgetSwings");
        C.undone("undo takes it back", Cases.ROOM, "forgetSwings");
        C.end();
    }
}
