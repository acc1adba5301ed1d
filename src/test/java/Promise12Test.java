/** Promise 12, observe: its cases. */
public final class Promise12Test {
    private static final Cases C = new Cases("promise 12, observe");

    public static void main(String[] args) {
        lines();
        seeds();
        noise();
        difference();
        wrapAround();
        checksAreKept();
        whatItChanges();
        units();
        C.end();
    }

    private static void lines() {
        C.says("NO_SUCH if there is no such line.");
        C.test("an empty row of lines", "observe 0 ! NO_SUCH", "observe -1 ! NO_SUCH", "observe 1 ! NO_SUCH");
        C.test("one line: 0 is taken, 1 and -1 are refused", "set NOISE 0", "line 70", "observe 0 = 70",
            "observe 1 ! NO_SUCH", "observe -1 ! NO_SUCH", "state 16 = 1");
        C.test("six lines: 5 is taken, 6 is refused", "set NOISE 0", "5 x line 10", "line 20", "observe 5 = 20",
            "observe 0 = 10", "observe 6 ! NO_SUCH", "observe MAX ! NO_SUCH", "observe MIN ! NO_SUCH",
            "state 16 = 2");
        C.test("a line that was undone is none", "line 10", "undo", "observe 0 ! NO_SUCH");
        C.test("a refused one changes nothing, the seed and the history neither", Cases.RICH, "observe 2 ! NO_SUCH",
            "observe -1 ! NO_SUCH", "observe 5 ! NO_SUCH", "observe MIN ! NO_SUCH", "observe MAX ! NO_SUCH");
    }

    private static void seeds() {
        C.says("SEED becomes (75 * SEED + 74) mod 65537, and 65536 is replaced by 0;");
        int[][] seeds = {{0, 74}, {1, 149}, {872, 65474}, {873, 12}, {65535, 65461}, {20097, 65535}, {45438, 0}};
        for (int[] seed : seeds) {
            C.test("behind the seed " + seed[0] + " comes " + seed[1], "line 0", "set SEED " + seed[0], "observe 0",
                "state 29 = " + seed[1]);
        }
        C.test("behind the seed 0 it goes on", "line 0", "set SEED 45438", "2 x observe 0", "state 29 = 74");
        C.test("each observation moves the seed by one step", "line 0", "line 0", "observe 0", "observe 1",
            "state 29 = 11249", "undo", "state 29 = 149", "observe 1", "state 29 = 11249");
    }

    private static void noise() {
        C.says("the difference is A / 100 plus SEED mod (2 * NOISE + 1) minus NOISE;");
        C.test("no noise", "set NOISE 0", "line 50", "5 x observe 0 = 50", "compass 7 = 0", "state 29 = 35283");
        C.test("the least noise of 500", "set NOISE 500", "set SEED 653", "line 1000", "observe 0 = 500",
            "check 0 = -500");
        C.test("the greatest noise of 500", "set NOISE 500", "set SEED 1380", "line 1000", "observe 0 = 1500",
            "check 0 = 500");
        C.test("the least noise of 20", "set SEED 34", "line 1000", "observe 0 = 980", "check 0 = -20");
        C.test("the greatest noise of 20", "set SEED 40", "line 1000", "observe 0 = 1020", "check 0 = 20");
        // 149 mod 3 is 2; behind it 11249 mod 3 is 2, 57305 mod 3 is 2, 38044 mod 3 is 1, 35283 mod 3 is 0.
        C.test("the noises of 1", "set NOISE 1", "line 1000", "observe 0 = 1001", "observe 0 = 1001",
            "observe 0 = 1001", "observe 0 = 1000", "observe 0 = 999");
    }

    private static void difference() {
        C.says("Divisions are rounded toward 0.");
        int[][] errors = {{99, 0}, {100, 1}, {199, 1}, {-99, 0}, {-100, -1}, {-199, -1}};
        for (int[] error : errors) {
            C.test("the difference by the error " + error[0], "set NOISE 0", "line 50", "start " + error[0] + " 0",
                "observe 0 = " + (50 + error[1]), "check 0 = " + error[1]);
        }
        C.says("the difference is A / 100 plus SEED mod (2 * NOISE + 1) minus NOISE; it is a check.");
        C.test("the greatest difference", Cases.STILL, "start 900000 100000", "pass 20", "set NOISE 500",
            "set SEED 1380", "line 35999", "observe 0 = 18499", "check 0 = 18500");
        C.test("the least difference", Cases.STILL, "start -900000 -100000", "pass 20", "set NOISE 500",
            "set SEED 653", "line 0", "observe 0 = 17500", "check 0 = -18500");
    }

    private static void wrapAround() {
        C.says("The bearing that is read is (true bearing + difference) mod 36000, from 0 to 35999.");
        C.test("35999 and 1 are 0", "set NOISE 0", "line 35999", "start 100 0", "observe 0 = 0", "check 0 = 1");
        C.test("35999 and 0 are 35999", "set NOISE 0", "line 35999", "start 99 0", "observe 0 = 35999");
        C.test("35998 and 1 are 35999", "set NOISE 0", "line 35998", "start 100 0", "observe 0 = 35999");
        C.test("0 less 1 is 35999", "set NOISE 0", "line 0", "start -100 0", "observe 0 = 35999", "check 0 = -1");
        C.test("0 less 0 is 0", "set NOISE 0", "line 0", "start -99 0", "observe 0 = 0");
        C.test("1 less 1 is 0", "set NOISE 0", "line 1", "start -100 0", "observe 0 = 0");
        C.test("27000 and 9000 are 0", "set NOISE 0", "line 27000", "start 900000 0", "observe 0 = 0");
        C.test("8999 less 9000 is 35999", "set NOISE 0", "line 8999", "start -900000 0", "observe 0 = 35999");
        C.test("noise alone leads below 0", "set SEED 34", "line 19", "observe 0 = 35999");
        C.test("noise alone leads to 36000", "set SEED 40", "line 35980", "observe 0 = 0");
        C.test("the line keeps its true bearing", "set NOISE 0", "line 35999", "start 100 0", "observe 0 = 0",
            "start 0 0", "observe 0 = 35999");
    }

    private static void checksAreKept() {
        C.says("The 5 latest checks are kept.");
        C.test("the fifth one fills the row", Cases.checked(1, 2, 3, 4, 5), "state 15 = 5", "state 16 = 5",
            "check 0 = 5", "check 4 = 1", "compass 7 = 15");
        C.test("the sixth one drops the oldest", Cases.checked(1, 2, 3, 4, 5, 6), "state 15 = 5", "state 16 = 6",
            "check 0 = 6", "check 4 = 2", "compass 7 = 20");
        C.test("twelve of them", Cases.checked(1, 2, 3, 4, 5, 6, 7, 8, 9, 10, 11, 12), "state 15 = 5",
            "state 16 = 12", "check 0 = 12", "check 1 = 11", "check 2 = 10", "check 3 = 9", "check 4 = 8");
        C.test("one that is undone brings the oldest back", Cases.checked(1, 2, 3, 4, 5, 6), "undo", "state 15 = 5",
            "state 16 = 5", "check 0 = 5", "check 4 = 1", "compass 7 = 15");
    }
    private static void whatItChanges() {
        C.says("Observes a reference line. This is a change. Returns the bearing that is read;");
        C.only("checks, observations and the seed, nothing else", Cases.RICH, "observe 0", "state 15", "state 16",
            "state 29", "compass 7", "check 0", "check 1", "check 2", "check 3", "check 4");
        C.undone("undo takes it back", Cases.ROOM, "observe 0");
        C.says("When one is observed:");
        C.test("no other call moves the seed", "line 5", Cases.turned(1, 2, 3), "state 29 = 1", "calmIn 5 5", "guess 5",
            "correct 1 2", "state 29 = 1");
        C.test("each line is read with its own bearing", "set NOISE 0", "line 100", "line 20000", "observe 1 = 20000",
            "observe 0 = 100");
    }

    private static void units() {
        C.says("Errors, rests and tilts are in ten-thousandths of a degree, courses and bearings in hundredths of a"
            + " degree (0 to 35999), latitudes in millionths of a degree (north is positive).");
        C.test("a degree of the error is a degree of the bearing", "set NOISE 0", "line 9000", "start 10000 0",
            "observe 0 = 9100", "start -10000 0", "observe 0 = 8900");
    }
}
