/** Promise 28, save: its cases. */
public final class Promise28Test {
    private static final Cases C = new Cases("promise 28, save");

    public static void main(String[] args) {
        slots();
        overwrites();
        whatIsSaved();
        whatItChanges();
        C.end();
    }

    private static void slots() {
        C.says("`slot`: 0 or 1");
        C.test("the slot 0 is taken, -1 is refused", "pass 7", "save 0 = 7", "save -1 ! BAD_VALUE",
            "save MIN ! BAD_VALUE", "restore 0 = 7", "restore 1 ! NOT_POSSIBLE");
        C.test("the slot 1 is taken, 2 is refused", "pass 7", "save 1 = 7", "save 2 ! BAD_VALUE",
            "save MAX ! BAD_VALUE", "restore 1 = 7", "restore 0 ! NOT_POSSIBLE");
        C.says("Returns the time; BAD_VALUE if there is no such slot.");
        C.test("at the time 0 and at the time 100000", "save 0 = 0", "166 x pass 600", "pass 400", "save 1 = 100000",
            "restore 0 = 0", "pass 1", "restore 1 = 100000", "pass 1 ! NOT_POSSIBLE");
        C.test("a refused one changes nothing, slots and history neither", Cases.RICH, "save -1 ! BAD_VALUE",
            "save 2 ! BAD_VALUE", "save MIN ! BAD_VALUE", "save MAX ! BAD_VALUE");
    }

    private static void overwrites() {
        C.says("Saves everything except the pad, the history and the slots in a slot, and overwrites what was saved"
            + " there.");
        C.test("it is overwritten", "start 1 0", "save 0", "start 2 0", "pass 3", "save 0 = 3", "start 4 0",
            "restore 0 = 3", "compass 0 = 2");
        C.test("fewer legs overwrite the full row", "8 x leg 1 2 3", "save 0", "steer 9 8", "leg 7 6 5", "save 0",
            "steer 0 0", "restore 0", "state 3 = 1", "state 1 = 7", "state 4 = 5", "pass 5", "state 3 = 0");
        C.test("an empty row overwrites the full row of turning points", Cases.turned(1, 2, 3, 4, 5, 6, 7, 8),
            "save 0", "forgetSwings", "save 0", "pass 5", "restore 0", "state 13 = 0", "turn 0 0 ! NO_SUCH-GONE");
        C.test("the other slot is not", "start 1 0", "save 0", "start 2 0", "save 1", "start 3 0", "save 1",
            "restore 0", "compass 0 = 1", "restore 1", "compass 0 = 3");
    }

    private static void whatIsSaved() {
        C.says("Saves everything except the pad, the history and the slots in a slot, and overwrites what was saved"
            + " there.");
        C.test("a new object", "save 0 = 0", "set GAIN 1", "start 5 6", "line 7", "restore 0 = 0", "state 22 = 20",
            "compass 0 = 0", "state 19 = 0", "observe 0 ! NO_SUCH");
        C.test("the pad is not", "put \"c1\"", "save 0", "put \"v2\"", "restore 0", "state 20 = 4", "wipe", "restore 0",
            "state 20 = 0");
        C.test("the history is not", "start 1 0", "save 0", "start 2 0", "start 3 0", "restore 0", "state 21 = 4",
            "undo = 3", "compass 0 = 3", "undo = 2", "compass 0 = 2", "undo = 1", "compass 0 = 1", "undo = 0",
            "compass 0 = 0");
        C.test("the slots are not", "start 1 0", "save 0", "start 2 0", "save 1", "restore 0", "restore 1",
            "compass 0 = 2");
        C.test("later changes do not change what was saved", Cases.turned(1, 2, 3, 4, 5, 6, 7, 8), Cases.checked(7),
            "leg 1 2 3", "save 0", "set GAIN 77", "pass 600", "start 900 -5", "observe 0", "line 9", "correct 1 2",
            "guess 3", "restore 0 = 9", "state 22 = 1", "state 0 = 9", "state 3 = 1", "state 4 = 3", "turn 7 0 = 1",
            "turn 0 0 = 8", "state 14 = 8", "check 0 = 7", "state 15 = 1", "state 19 = 1", "compass 9 = 0",
            "state 17 = 0", "compass 10 = 0");
        C.says("each method that is a change, and returns no error, records the state before it");
        C.test("it is no change", "start 1 0", "save 0 = 0", "save 1 = 0", "state 21 = 1", "undo = 0", "compass 0 = 0");
    }
    private static void whatItChanges() {
        C.says("Saves everything except the pad, the history and the slots in a slot, and overwrites what was saved"
            + " there.");
        C.only("nothing but what the slot 0 keeps", Cases.RICH, "save 0 = 197");
        C.only("nothing but what the slot 1 keeps", Cases.RICH, "save 1 = 197");
        C.sameBehind("twice is as good as once", Cases.RICH + "save 0\nsave 0\n", Cases.RICH + "save 0\n");
        String full = Cases.turned(1, 2, 3, 4, 5, 6, 7, 8) + Cases.checked(1, 2, 3, 4, 5) + "8 x leg 1 2 3\n";
        String less = "forgetSwings\npass 2\nsteer 7 8\nleg 5 6 7\nguess 9\n";
        C.sameBehind("what was saved there before is nothing to it", full + "save 0\n" + less + "save 0\n",
            full + less + "save 0\n");
    }
}
