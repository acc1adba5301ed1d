/** Promise 15, turn: its cases. */
public final class Promise15Test {
    private static final Cases C = new Cases("promise 15, turn");

    public static void main(String[] args) {
        rows();
        what();
        theyStay();
        eachTellsItsOwn();
        C.end();
    }

    private static void rows() {
        C.says("Returns the number; NO_SUCH minus GONE if there is no such turning point;");
        C.test("an empty row", "turn 0 0 ! NO_SUCH-GONE", "turn 0 1 ! NO_SUCH-GONE", "turn -1 0 ! NO_SUCH-GONE",
            "turn MIN 0 ! NO_SUCH-GONE", "turn MAX 0 ! NO_SUCH-GONE");
        C.test("one: 0 is taken, 1 and -1 are refused", Cases.turned(77), "turn 0 0 ~ 77", "turn 0 1 ~ 1",
            "turn 1 0 ! NO_SUCH-GONE", "turn -1 0 ! NO_SUCH-GONE", "turn 1 1 ! NO_SUCH-GONE");
        C.says("`index`: 0 for the latest one");
        C.test("two: the latest one is 0", Cases.turned(77, 88), "turn 0 0 ~ 88", "turn 0 1 ~ 2", "turn 1 0 ~ 77",
            "turn 1 1 ~ 1", "turn 2 0 ! NO_SUCH-GONE");
        C.says("At most the 8 latest turning points are kept.");
        C.test("seven", Cases.turned(1, 2, 3, 4, 5, 6, 7), "turn 6 0 ~ 1", "turn 7 0 ! NO_SUCH-GONE",
            "state 13 ~ 7");
        C.test("the full row: 7 is taken, 8 is refused", Cases.turned(1, 2, 3, 4, 5, 6, 7, 8), "turn 7 0 ~ 1",
            "turn 7 1 ~ 1", "turn 0 0 ~ 8", "turn 8 0 ! NO_SUCH-GONE", "turn 8 1 ! NO_SUCH-GONE", "state 13 ~ 8");
        C.test("one more than the full row drops the oldest", Cases.turned(1, 2, 3, 4, 5, 6, 7, 8, 9),
            "turn 7 0 ~ 2", "turn 7 1 ~ 2", "turn 0 0 ~ 9", "turn 0 1 ~ 9", "turn 8 0 ! NO_SUCH-GONE",
            "state 13 ~ 8", "state 14 ~ 9");
        C.test("twice the full row and one more", Cases.turned(1, 2, 3, 4, 5, 6, 7, 8, 9, 10, 11, 12, 13, 14, 15,
            16, 17), "turn 7 0 ~ 10", "turn 6 0 ~ 11", "turn 1 0 ~ 16", "turn 0 0 ~ 17", "state 13 ~ 8",
            "state 14 ~ 17");
        C.test("undo brings the oldest back", Cases.turned(1, 2, 3, 4, 5, 6, 7, 8, 9), "undo", "turn 7 0 ~ 1",
            "turn 0 0 ~ 8", "state 13 ~ 8", "state 14 ~ 8");
    }

    private static void what() {
        C.says("BAD_VALUE minus GONE if what is out of range.");
        C.test("0 and 1 are taken, -1 and 2 are refused", Cases.turned(77), "turn 0 0 ~ 77", "turn 0 1 ~ 1",
            "turn 0 -1 ! BAD_VALUE-GONE", "turn 0 2 ! BAD_VALUE-GONE", "turn 0 MIN ! BAD_VALUE-GONE",
            "turn 0 MAX ! BAD_VALUE-GONE");
        C.says("it names its errors in the order in which they are checked, and the first one that applies is"
            + " returned.");
        C.test("no such turning point comes ahead of what", Cases.turned(77), "turn 1 2 ! NO_SUCH-GONE",
            "turn -1 -1 ! NO_SUCH-GONE", "turn MIN MAX ! NO_SUCH-GONE");
        C.test("no such turning point comes ahead of what in an empty row", "turn 0 2 ! NO_SUCH-GONE",
            "turn 0 -1 ! NO_SUCH-GONE");
        C.says("A call that returns an error changes nothing.");
        C.test("looking changes nothing", Cases.RICH, "turn -1 0 ! NO_SUCH-GONE", "turn 8 0 ! NO_SUCH-GONE",
            "turn 0 2 ! BAD_VALUE-GONE", "turn 0 -1 ! BAD_VALUE-GONE");
        C.says("Methods that return amounts that can be negative return error codes and NONE minus GONE, where GONE"
            + " is 1000000000.");
        C.test("errors of -1 and -2 are no error codes", Cases.turned(-2, -1), "turn 0 0 ~ -1", "turn 1 0 ~ -2");
        C.test("the greatest error and the least one", Cases.STILL, "start 900000 100000", "pass 58", "pass 1 = 1",
            "turn 0 0 ~ 1800000", "start -900000 -100000", "pass 58 = 0", "pass 1 = 1", "turn 0 0 ~ -1800000",
            "turn 0 1 ~ 117");
    }

    private static void theyStay() {
        C.says("When something is set, steered or damped they stay; forgetSwings() drops them, and the direction.");
        String run = Cases.turned(1, 2, 3, 4, 5, 6, 7, 8);
        String[] calls = {"set LATE 7", "steer 9000 5", "damp 4", "leg 9000 5 6", "correct 5 6", "place 7", "start 5 6",
            "line 8", "guess 9", "save 0", "wipe"};
        for (String call : calls) {
            C.test("they stay behind " + call, run, call, "turn 0 0 = 8", "turn 7 0 = 1", "turn 0 1 = 8",
                "state 13 = 8", "compass 3 = 1");
        }
        C.test("forgetSwings drops them", run, "forgetSwings", "turn 0 0 ! NO_SUCH-GONE", "turn 7 0 ! NO_SUCH-GONE",
            "state 13 = 0", "compass 3 = 0");
    }
    private static void eachTellsItsOwn() {
        C.says("Returns a number about a turning point that is kept.");
        C.test("all that are kept", Cases.turned(11, 22, 33), "turn 0 0 ~ 33", "turn 1 0 ~ 22", "turn 2 0 ~ 11",
            "turn 0 1 ~ 3", "turn 1 1 ~ 2", "turn 2 1 ~ 1");
        C.says("`what`: 0 its error, 1 its number of minutes");
        C.test("the number of minutes that had passed then", "pass 77", Cases.STILL, "start 0 1", "pass 5",
            "start 900 -1", "pass 9", "turn 0 0 ~ 900", "turn 0 1 ~ 82");
    }
}
