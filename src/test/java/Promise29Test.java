/** Promise 29, restore: its cases. */
public final class Promise29Test {
    private static final Cases C = new Cases("promise 29, restore");

    public static void main(String[] args) {
        slots();
        keeps();
        change();
        everything();
        C.end();
    }

    private static void slots() {
        C.says("`slot`: 0 or 1");
        C.test("the slots 0 and 1 are taken, -1 and 2 are refused", "pass 5", "save 0", "pass 6", "save 1", "pass 7",
            "restore -1 ! BAD_VALUE", "restore 2 ! BAD_VALUE", "restore MIN ! BAD_VALUE", "restore MAX ! BAD_VALUE",
            "restore 0 = 5", "restore 1 = 11");
        C.says("NOT_POSSIBLE if nothing was saved in it.");
        C.test("empty slots", "start 5 6", "restore 0 ! NOT_POSSIBLE", "restore 1 ! NOT_POSSIBLE", "compass 0 = 5");
        C.test("slot 0 alone was saved", "start 5 6", "save 0", "start 7 8", "restore 1 ! NOT_POSSIBLE",
            "compass 0 = 7", "restore 0 = 0", "compass 0 = 5");
        C.test("slot 1 alone was saved", "start 5 6", "save 1", "start 7 8", "restore 0 ! NOT_POSSIBLE",
            "compass 0 = 7", "restore 1 = 0", "compass 0 = 5");
        C.test("a refused save saves nothing", "save 2 ! BAD_VALUE", "save -1 ! BAD_VALUE", "restore 0 ! NOT_POSSIBLE",
            "restore 1 ! NOT_POSSIBLE");
        C.says("it names its errors in the order in which they are checked, and the first one that applies is"
            + " returned.");
        C.test("no such slot comes ahead of nothing saved", "restore 2 ! BAD_VALUE", "restore -1 ! BAD_VALUE");
        C.says("BAD_VALUE if there is no such slot;");
        C.test("a refused one changes nothing, the history neither", Cases.RICH, "restore -1 ! BAD_VALUE",
            "restore 2 ! BAD_VALUE", "restore MIN ! BAD_VALUE", "restore MAX ! BAD_VALUE");
        C.test("one refused for nothing saved changes nothing", Cases.turned(1, 2, 3), "leg 1 2 3",
            "restore 0 ! NOT_POSSIBLE", "restore 1 ! NOT_POSSIBLE");
    }

    private static void keeps() {
        C.says("Restores what was saved last in a slot, which keeps it.");
        C.test("what was saved last", "start 1 0", "save 0", "start 2 0", "save 0", "start 3 0", "restore 0",
            "compass 0 = 2");
        C.test("the slot keeps it", "start 1 0", "save 0", "start 2 0", "restore 0", "compass 0 = 1", "start 3 0",
            "pass 600", "restore 0 = 0", "compass 0 = 1", "state 0 = 0");
        C.test("what is done behind it does not reach the slot", Cases.turned(1, 2, 3, 4, 5, 6, 7, 8),
            Cases.checked(7), "8 x leg 1 2 3", "save 1", "restore 1", "set GAIN 77", "pass 600", "observe 0", "line 9",
            "damp 3", "correct 1 2", "guess 3", "forgetSwings", "steer 0 0", "restore 1 = 9", "state 22 = 1",
            "state 3 = 8", "state 4 = 3", "turn 7 0 = 1", "turn 0 0 = 8", "check 0 = 7", "state 15 = 1",
            "state 19 = 1", "compass 9 = 0", "state 17 = 0", "compass 10 = 0", "state 8 = 9", "state 6 = 0",
            "state 5 = 0");
        C.test("the mean of swings goes on from what is restored", Cases.turned(100, 50), "save 0", "pass 600",
            "restore 0 = 3", "start 70 -1", "pass 1 = 1", "compass 5 = 75", "turn 0 1 = 3");
        C.test("the mean does not take other minutes at the same times", Cases.turned(100, 50), "save 0", "undo", "undo",
            "undo", "undo", "state 0 = 1", "start 900 1", "pass 5", "restore 0 = 3", "start 70 -1", "pass 1 = 1",
            "compass 5 = 75", "turn 0 1 = 3");
        C.test("the bearings of the lines come back", "set NOISE 0", "line 10", "save 0", "undo", "line 20",
            "observe 0 = 20", "restore 0", "observe 0 = 10");
        C.test("the full rows come back", "6 x line 7", "8 x leg 1 2 3", "save 0", "steer 0 0", "restore 0",
            "leg 1 2 3 ! TOO_MANY", "line 8 ! TOO_MANY", "place 0 ! NOT_POSSIBLE", "state 3 = 8");
        C.test("the empty rows come back", "save 0", "6 x line 7", "8 x leg 1 2 3", "restore 0", "state 3 = 0",
            "state 19 = 0", "line 8 = 0", "place 5 = 0");
    }

    private static void change() {
        C.says("Returns the time then;");
        C.test("the time of the slot", "pass 5", "save 0 = 5", "pass 600", "restore 0 = 5", "state 0 = 5");
        C.says("A history of at most 6 states is kept: each method that is a change, and returns no error, records"
            + " the state before it (also if nothing is different then);");
        C.test("it can be undone", "start 1 0", "save 0", "start 2 0", "restore 0", "state 21 = 3", "undo = 2",
            "compass 0 = 2", "undo = 1", "compass 0 = 1");
        C.test("with a full history it drops the oldest state", "save 0", "start 1 0", "start 2 0", "start 3 0",
            "start 4 0", "start 5 0", "start 6 0", "restore 0", "state 21 = 6", "compass 0 = 0", "undo = 5",
            "compass 0 = 6", "undo = 4", "undo = 3", "undo = 2", "undo = 1", "undo = 0", "compass 0 = 1",
            "undo ! NOT_POSSIBLE");
        C.test("pad and slots are not restored", "put \"c\"", "save 0", "wipe", "start 5 6", "save 1", "restore 0",
            "state 20 = 0", "restore 1", "compass 0 = 5");
    }
    private static void everything() {
        C.says("Restores what was saved last in a slot, which keeps it. This is a change.");
        C.undone("undo takes it back, slot 0", Cases.ROOM, "restore 0 = 170");
        C.undone("undo takes it back, slot 1", Cases.ROOM, "restore 1 = 190");
        String[] later = {"set LATE 7\nset SEED 9\nset WAIT 60\nset NOISE 0", "start 1 2", "line 5\nline 6",
            "steer 1 2", "steer 0 0\nplace 9", "4 x leg 5 6 7", "pass 600", "damp 1", "damp 3", "correct 5 6",
            "forgetSwings", "6 x observe 0", "guess 9", "wipe\nwrite \"c1v2m3\"\nload", "undo\nundo\nundo\nundo",
            "6 x undo", "restore 0\npass 60", "forgetSwings\npass 600\nobserve 1\nguess 5\nline 5\ncorrect 9 9"};
        for (String changes : later) {
            C.restored("everything is as it was: " + changes.replace('\n', ','), Cases.RICH, changes);
        }
    }
}
