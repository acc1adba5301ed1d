/** Promise 9, damp: its cases. */
public final class Promise09Test {
    private static final Cases C = new Cases("promise 9, damp");

    public static void main(String[] args) {
        range();
        factors();
        waits();
        sameLevel();
        refused();
        whatItChanges();
        C.end();
    }

    private static void range() {
        C.says("`level`: 0 to 4");
        C.test("4 is taken, 5 is refused", "damp 4 = 2", "state 6 = 4", "pass 60", "damp 5 ! BAD_VALUE",
            "damp MAX ! BAD_VALUE", "state 6 = 4", "state 21 = 2");
        C.test("0 is taken, -1 is refused", "damp 0 = 2", "state 6 = 0", "pass 60", "damp -1 ! BAD_VALUE",
            "damp MIN ! BAD_VALUE", "state 6 = 0", "state 21 = 2");
        C.test("each previous level", "set WAIT 0", "damp 0 = 2", "damp 1 = 0", "damp 2 = 1", "damp 3 = 2",
            "damp 4 = 3", "damp 0 = 4");
    }

    private static void factors() {
        C.says("The damping has a level from 0 to 4; its factor D is 0, 10, 20, 40 or 80.");
        int[] tilts = {1000, 990, 980, 960, 920};
        for (int level = 0; level < tilts.length; level++) {
            C.test("the factor of level " + level, "set RATE 1", "damp " + level, "start 0 1000", "pass 1",
                "compass 1 = " + tilts[level], "start 0 -1000", "pass 1", "compass 1 = -" + tilts[level]);
        }
    }

    private static void waits() {
        C.says("NOT_POSSIBLE if it is less than WAIT minutes since the level was changed last (it never was at"
            + " first).");
        C.test("at first there is no wait", "damp 3 = 2", "state 6 = 3", "state 7 = 0");
        C.test("at first there is no wait, with the greatest one either", "set WAIT 60", "pass 5", "damp 3 = 2");
        C.test("9 minutes are too few, 10 are not", "damp 3", "damp 1 ! NOT_POSSIBLE", "pass 9",
            "damp 1 ! NOT_POSSIBLE", "state 7 = 9", "pass 1", "state 7 = 10", "damp 1 = 3", "state 7 = 0");
        C.test("59 minutes are too few for the greatest wait, 60 are not", "set WAIT 60", "damp 3", "pass 59",
            "damp 1 ! NOT_POSSIBLE", "pass 1", "damp 1 = 3", "damp 2 ! NOT_POSSIBLE");
        C.test("with a wait of 1 one minute is enough", "set WAIT 1", "damp 3", "damp 1 ! NOT_POSSIBLE", "pass 1",
            "damp 1 = 3");
        C.test("with a wait of 0 none is needed", "set WAIT 0", "damp 3", "damp 1 = 3", "damp 4 = 1");
        C.test("the wait of now counts", "damp 3", "pass 5", "set WAIT 6", "damp 1 ! NOT_POSSIBLE", "set WAIT 5",
            "damp 1 = 3", "set WAIT 60", "pass 59", "damp 2 ! NOT_POSSIBLE");
        C.test("a change that was undone is none", "damp 3", "damp 1 ! NOT_POSSIBLE", "undo", "state 7 = NONE",
            "damp 1 = 2", "damp 1 ! NOT_POSSIBLE");
        C.test("a change at the greatest time", "166 x pass 600", "pass 400", "damp 3 = 2", "state 7 = 0",
            "damp 1 ! NOT_POSSIBLE");
        C.test("the greatest number of minutes since", "damp 3", "166 x pass 600", "pass 400", "state 7 = 100000",
            "damp 1 = 3");
    }

    private static void sameLevel() {
        C.says("Changes the damping level (also to the one that it is; that counts as changed, too).");
        C.test("to the one that it is, at first", "pass 3", "damp 2 = 2", "state 7 = 0", "state 21 = 2",
            "damp 2 ! NOT_POSSIBLE");
        C.test("to the one that it is, behind the wait", "damp 2", "pass 10", "damp 2 = 2", "state 7 = 0",
            "pass 9", "damp 2 ! NOT_POSSIBLE", "damp 1 ! NOT_POSSIBLE");
    }

    private static void refused() {
        C.says("it names its errors in the order in which they are checked, and the first one that applies is"
            + " returned.");
        C.test("out of range comes ahead of the wait", "damp 3", "damp 5 ! BAD_VALUE", "damp -1 ! BAD_VALUE",
            "damp 4 ! NOT_POSSIBLE", "damp 0 ! NOT_POSSIBLE");
        C.says("A call that returns an error changes nothing.");
        C.test("a refused one is no change of the level", "damp 3", "pass 8", "damp 1 ! NOT_POSSIBLE",
            "damp 5 ! BAD_VALUE", "state 7 = 8", "pass 2", "damp 1 = 3");
        C.test("a refused one changes nothing, the history neither", Cases.RICH, "damp 5 ! BAD_VALUE",
            "damp -1 ! BAD_VALUE", "damp 1", "pass 4", "damp 2 ! NOT_POSSIBLE");
    }
    private static void whatItChanges() {
        C.says("This is a change.");
        C.only("the level and the minutes since, nothing else", Cases.RICH, "damp 1", "state 6", "state 7");
        C.only("to the one that it is: the minutes since, nothing else", Cases.RICH, "damp 3", "state 7");
        C.undone("undo takes it back", Cases.ROOM, "damp 1");
        C.undone("undo takes it back, of the one that it is, too", Cases.ROOM, "damp 3");
        C.says("Returns the previous level; BAD_VALUE if level is out of range;");
        C.test("the previous level behind undo", "damp 1 = 2", "undo", "damp 4 = 2");
        C.test("the level that is refused is not the previous one", "damp 5 ! BAD_VALUE", "damp -1 ! BAD_VALUE",
            "damp 3 = 2");
    }
}
