/** Promise 27, undo: its cases. */
public final class Promise27Test {
    private static final Cases C = new Cases("promise 27, undo");

    public static void main(String[] args) {
        empty();
        full();
        aroundTheRow();
        nothingDifferent();
        whatIsRecorded();
        whatIsNotRecorded();
        fullRowsComeBack();
        padSlotsAndHistory();
        everything();
        C.end();
    }

    private static void empty() {
        C.says("Returns how many changes can be undone then; NOT_POSSIBLE if there is none.");
        C.test("an empty history", "undo ! NOT_POSSIBLE", "undo ! NOT_POSSIBLE", "state 21 = 0");
        C.test("one change", "start 5 6", "undo = 0", "compass 0 = 0", "compass 1 = 0", "undo ! NOT_POSSIBLE",
            "compass 0 = 0");
        C.test("a refused one changes nothing", Cases.RICH, "undo = 5", "undo = 4", "undo = 3", "undo = 2", "undo = 1",
            "undo = 0", "undo ! NOT_POSSIBLE", "undo ! NOT_POSSIBLE");
    }

    private static void full() {
        C.says("A history of at most 6 states is kept:");
        C.test("six changes are undone, a seventh undo is refused", "start 1 0", "start 2 0", "start 3 0", "start 4 0",
            "start 5 0", "start 6 0", "state 21 = 6", "undo = 5", "compass 0 = 5", "undo = 4", "undo = 3", "undo = 2",
            "compass 0 = 2", "undo = 1", "compass 0 = 1", "undo = 0", "compass 0 = 0", "undo ! NOT_POSSIBLE");
        C.says("when one more is recorded, the oldest one is dropped.");
        C.test("the seventh change drops the first one", "start 1 0", "start 2 0", "start 3 0", "start 4 0",
            "start 5 0", "start 6 0", "start 7 0", "state 21 = 6", "undo = 5", "compass 0 = 6", "undo = 4", "undo = 3",
            "undo = 2", "undo = 1", "compass 0 = 2", "undo = 0", "compass 0 = 1", "undo ! NOT_POSSIBLE",
            "compass 0 = 1");
        C.test("a refused call drops none", "start 1 0", "start 2 0", "start 3 0", "start 4 0", "start 5 0",
            "start 6 0", "start 900001 0 ! BAD_VALUE-GONE", "pass 0 ! BAD_VALUE", "observe 0 ! NO_SUCH", "undo = 5",
            "compass 0 = 5", "undo = 4", "undo = 3", "undo = 2", "undo = 1", "undo = 0", "compass 0 = 0");
    }

    private static void aroundTheRow() {
        C.says("when one more is recorded, the oldest one is dropped.");
        StringBuilder run = new StringBuilder();
        for (int i = 1; i <= 20; i++) {
            run.append("start ").append(i).append(" 0\n");
        }
        C.test("twenty changes, the last six are undone", run.toString(), "undo = 5", "compass 0 = 19", "undo = 4",
            "compass 0 = 18", "undo = 3", "compass 0 = 17", "undo = 2", "compass 0 = 16", "undo = 1", "compass 0 = 15",
            "undo = 0", "compass 0 = 14", "undo ! NOT_POSSIBLE");
        C.test("undone and changed again, around the row", run.toString(), "undo = 5", "undo = 4", "undo = 3",
            "start 31 0", "start 32 0", "start 33 0", "start 34 0", "state 21 = 6", "undo = 5", "compass 0 = 33",
            "undo = 4", "compass 0 = 32", "undo = 3", "compass 0 = 31", "undo = 2", "compass 0 = 17", "undo = 1",
            "compass 0 = 16", "undo = 0", "compass 0 = 15", "undo ! NOT_POSSIBLE");
        C.test("undo is no change that could be undone", "start 1 0", "start 2 0", "undo = 1", "undo = 0",
            "undo ! NOT_POSSIBLE", "compass 0 = 0", "start 3 0", "undo = 0", "compass 0 = 0");
    }

    private static void nothingDifferent() {
        C.says("records the state before it (also if nothing is different then);");
        String[] calls = {"set GAIN 20", "start 0 0", "place 0", "steer 0 0", "correct 0 0", "forgetSwings"};
        for (String call : calls) {
            C.test(call + " on a new object", call, "state 21 = 1", "start 5 0", "undo = 1", "undo = 0",
                "undo ! NOT_POSSIBLE");
        }
        C.test("what is restored as it is", "start 5 0", "save 0", "restore 0", "state 21 = 2", "undo = 1",
            "compass 0 = 5", "undo = 0", "compass 0 = 0");
    }

    private static void whatIsRecorded() {
        C.says("each method that is a change, and returns no error, records the state before it");
        String ready = "set WAIT 0\nset NOISE 0\nline 70\nstart 900 7\nwrite \"c1v2m3\"\nsave 0\nplace 3\n";
        String[] calls = {"set GAIN 5", "start 1 2", "place 9", "line 5", "steer 1 2", "leg 1 2 3", "pass 9", "damp 4",
            "correct 5 6", "forgetSwings", "observe 0", "guess 7", "load", "restore 0"};
        for (String call : calls) {
            C.test(call + " is a change", ready, "undo = 4", call, "state 21 = 5", "undo = 4", "state 22 = 20",
                "compass 0 = 900", "compass 1 = 7", "compass 8 = 0", "state 19 = 1", "state 1 = 0", "state 3 = 0",
                "state 0 = 0", "state 6 = 2", "state 7 = NONE", "compass 9 = 0", "state 18 = 0", "state 16 = 0",
                "state 15 = 0", "state 29 = 1", "state 17 = 0", "compass 10 = 0", "undo = 3", "compass 0 = 0");
        }
        C.test("an answer of NONE-GONE to a look is no change", "compass 4 ~ NONE-GONE", "state 7 ~ NONE",
            "undo ! NOT_POSSIBLE");
    }

    private static void whatIsNotRecorded() {
        C.says("each method that is a change, and returns no error, records the state before it");
        String[] refused = {"set GAIN 0 ! BAD_VALUE", "set 9 1 ! BAD_VALUE", "start 900001 0 ! BAD_VALUE-GONE",
            "place 71 ! BAD_VALUE", "line 36000 ! BAD_VALUE", "steer 0 401 ! BAD_VALUE", "leg 0 0 0 ! BAD_VALUE",
            "pass 0 ! BAD_VALUE", "damp 5 ! BAD_VALUE", "correct 71 0 ! BAD_VALUE", "observe 0 ! NO_SUCH",
            "guess 1800001 ! BAD_VALUE", "load ! BAD_TEXT", "restore 2 ! BAD_VALUE", "restore 1 ! NOT_POSSIBLE"};
        for (String call : refused) {
            C.test("not recorded: " + call, "start 5 6", call, "state 21 = 1", "undo = 0", "compass 0 = 0",
                "undo ! NOT_POSSIBLE");
        }
        String[] looks = {"compass 0", "check 0", "turn 0 0", "reason", "state 0", "wave 0 0", "restAt 0 0 0",
            "calmIn 100000 1", "bestLevel 100000 1", "put \"c\"", "wipe", "fault", "save 0"};
        for (String call : looks) {
            C.test("not recorded: " + call, Cases.turned(1), Cases.checked(2), call, "start 5 6", "undo = 5",
                "undo = 4", "state 15 = 0");
        }
    }

    private static void fullRowsComeBack() {
        C.says("Undoes the latest change: everything except the pad, the slots and the history is as it was before it.");
        C.test("the full row of legs", "leg 100 10 1", "7 x leg 200 20 2", "steer 0 0 = 8", "undo = 5", "state 3 = 8",
            "state 1 = 100", "state 2 = 10", "state 4 = 1", "pass 1", "state 3 = 7", "state 1 = 200", "state 4 = 2");
        C.test("legs that were sailed", "leg 100 10 1", "leg 200 20 2", "pass 3", "state 3 = 0", "state 2 = 0",
            "undo = 2", "state 3 = 2", "state 2 = 10", "state 4 = 1", "state 5 = 0", "state 0 = 0");
        C.test("the turning point that was dropped from the full row", Cases.turned(1, 2, 3, 4, 5, 6, 7, 8, 9),
            "turn 7 0 = 2", "undo = 5", "turn 7 0 = 1", "turn 0 0 = 8", "state 14 = 8", "compass 3 = 1");
        C.test("the check that was dropped from the full row, and the seed", "set NOISE 0", "line 0", "start 100 0",
            "observe 0", "start 0 0", "5 x observe 0", "check 4 = 0", "undo = 5", "check 4 = 1", "state 29 = 35283",
            "state 16 = 5");
        C.test("600 minutes", "start 100000 0", "pass 600", "undo = 1", "state 0 = 0", "state 10 = 0", "state 14 = 0",
            "compass 0 = 100000", "compass 3 = 0", "compass 1 = 0");
        C.test("the minutes of the mean", Cases.turned(100, 50, 70), "compass 5 = 75", "pass 600", "undo", "undo",
            "start 71 -1", "pass 1 = 1", "compass 5 = 75", "turn 0 0 = 71", "turn 0 1 = 3");
        C.test("the minutes of the mean, not others at the same times", Cases.STILL, "start 0 1", "pass 1", "save 0",
            "start 100 -1", "pass 1", "start 50 1", "pass 1", "restore 0 = 1", "start 900 1", "pass 5", "undo", "undo",
            "undo", "state 0 = 3", "start 70 -1", "pass 1 = 1", "compass 5 = 75");
        C.test("the bearings of the lines", "set NOISE 0", "line 10", "line 20", "start 5 6", "undo", "undo",
            "line 30", "start 5 6", "undo", "observe 1 = 30", "observe 0 = 10");
        C.test("the bearings of a full row of lines", "set NOISE 0", "line 10", "save 0", "undo", "line 20",
            "5 x line 30", "start 5 6", "restore 0", "observe 0 = 10", "undo", "undo", "observe 0 = 20", "observe 5 = 30");
        C.test("the greatest sum of faults", "guess 1800000", "guess 1800000", "undo = 1", "compass 10 = 1800000",
            "state 17 = 1", "undo = 0", "compass 10 = 0", "state 17 = 0");
    }

    private static void padSlotsAndHistory() {
        C.says("Undoes the latest change: everything except the pad, the slots and the history is as it was before it.");
        C.test("the pad stays", "start 1 0", "put \"c1\"", "undo = 0", "state 20 = 2", "put \"v2m3\"", "fault ~ NONE");
        C.test("a full pad stays", "start 1 0", "10 x put \"abcdefgh\"", "undo = 0", "state 20 = 80");
        C.test("a slot stays", "start 1 0", "save 0", "start 2 0", "undo = 1", "undo = 0", "restore 0 = 0",
            "compass 0 = 1");
        C.test("a slot that was saved behind the change stays", "start 1 0", "start 2 0", "save 1 = 0", "undo = 1",
            "compass 0 = 1", "restore 1 = 0", "compass 0 = 2", "undo = 1", "compass 0 = 1");
        C.test("a state that comes back is not that of the history any more", "start 1 0", "start 2 0", "undo = 1",
            "pass 600", "start 3 0", "undo = 2", "undo = 1", "compass 0 = 1", "state 0 = 0", "undo = 0",
            "compass 0 = 0");
    }
    /** One change of each kind that is possible everywhere. */
    private static final String[] CHANGES = {"set LATE 7", "set SEED 9", "start 1 2", "line 5", "steer 1 2", "leg 5 6 7",
        "pass 600", "damp 1", "correct 5 6", "forgetSwings", "observe 0", "guess 9", "restore 0", "restore 1"};

    private static void everything() {
        C.says("Undoes the latest change: everything except the pad, the slots and the history is as it was before it.");
        for (String first : CHANGES) {
            C.sameBehind("two of them, the first one is " + first, Cases.ROOM + first + "\npass 60\nundo\nundo\n",
                Cases.ROOM);
            C.sameBehind("another one than " + first, Cases.ROOM + first + "\nundo\nstart 7 8\n",
                Cases.ROOM + "start 7 8\n");
        }
        C.sameBehind("six of them", Cases.RICH + "6 x undo\nset RATE 7\nstart 1 2\nsteer 5 6\npass 300\nobserve 0\n"
            + "forgetSwings\n6 x undo\n", Cases.RICH + "6 x undo\n");
        C.sameBehind("six other ones", Cases.RICH + "6 x undo\nline 7\nguess 8\ncorrect 9 10\nleg 5 6 7\npass 600\n"
            + "restore 1\n6 x undo\n", Cases.RICH + "6 x undo\n");
        C.says("when one more is recorded, the oldest one is dropped.");
        C.sameBehind("eight changes, and two of them undone", Cases.RICH + "start 1 2\npass 60\nobserve 1\nundo\nundo\n",
            Cases.RICH + "start 1 2\npass 70\nguess 9\nundo\nundo\n");
    }
}
