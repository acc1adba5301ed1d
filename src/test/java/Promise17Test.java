/** Promise 17, reason: its cases. */
public final class Promise17Test {
    private static final Cases C = new Cases("promise 17, reason");

    public static void main(String[] args) {
        turningPoints();
        swing();
        agreement();
        checks();
        checksAndSettled();
        settled();
        level();
        firstOfThem();
        looking();
        C.end();
    }

    private static void turningPoints() {
        C.says("1 there are fewer than three turning points;");
        C.test("1: none", "reason ~ 1");
        C.test("1: two", Cases.turned(0, 0), "reason ~ 1");
        C.test("1: three are enough", Cases.turned(0, 0, 0), "reason ~ 4");
        C.test("1: the full row, forgotten", Cases.turned(0, 0, 0, 0, 0, 0, 0, 0), "reason ~ 4", "forgetSwings",
            "reason ~ 1");
    }

    private static void swing() {
        C.says("2 the absolute value of e3 - e2 is greater than SWING;");
        C.test("2: 11 is not greater than 11, but than 10", Cases.turned(0, 0, 11), "set SWING 11", "reason ~ 4",
            "set SWING 10", "reason ~ 2");
        C.test("2: -11 is not beyond 11, but beyond 10", Cases.turned(0, 11, 0), "set SWING 11", "reason ~ 4",
            "set SWING 10", "reason ~ 2");
        C.test("2: no swing is not greater than 0", Cases.turned(0, 5, 5), "set SWING 0", "reason ~ 4");
        C.test("2: a swing of 1 is greater than 0", Cases.turned(0, 5, 6), "set SWING 0", "reason ~ 2");
        C.test("2: the swing before does not count", Cases.turned(900, 5, 5), "set SWING 0", "reason ~ 4");
        C.test("2: a swing beyond the greatest SWING", Cases.STILL, "set SWING 100000", "start 0 1", "pass 1",
            "start 0 -1", "pass 1 = 1", "start 0 1", "pass 1 = 1", "start 100000 -1", "pass 1 = 1", "set AGREE 20000",
            "reason ~ 3", "start 0 1", "pass 1 = 1", "reason ~ 4", "start 100001 -1", "pass 1 = 1", "reason ~ 2");
    }

    private static void agreement() {
        C.says("3 the settled errors by turning points and by the mean differ by more than AGREE;");
        C.test("3: by turning points 25 below the mean", Cases.turned(100, 0, 0), "compass 4 ~ 25", "compass 5 ~ 50",
            "set AGREE 25", "reason ~ 4", "set AGREE 24", "reason ~ 3");
        C.test("3: by turning points 25 above the mean", Cases.turned(-100, 0, 0), "compass 4 ~ -25",
            "compass 5 ~ -50", "set AGREE 25", "reason ~ 4", "set AGREE 24", "reason ~ 3");
        C.test("3: no difference is not more than 0", Cases.turned(100, 100, 100), "set AGREE 0", "reason ~ 4");
        C.test("3: a difference of 1 is more than 0", Cases.turned(0, 0, 4), "compass 4 ~ 1", "compass 5 ~ 0",
            "set AGREE 0", "reason ~ 3", "set AGREE 1", "reason ~ 4");
    }

    private static void checks() {
        C.says("4 there are fewer than three checks;");
        C.test("4: none", Cases.turned(0, 0, 0), "reason ~ 4");
        C.test("4: two", Cases.turned(0, 0, 0), Cases.checked(0, 0), "reason ~ 4");
        C.test("4: three are enough", Cases.turned(0, 0, 0), Cases.checked(0, 0, 0), "reason ~ 7");
        C.test("4: three of which one is undone", Cases.turned(0, 0, 0), Cases.checked(0, 0, 0), "undo", "reason ~ 4");
    }

    private static void checksAndSettled() {
        C.says("5 100 times (the mean of the last three checks, rounded) differs from the settled error by turning"
            + " points by more than TOLERANCE;");
        String still = Cases.turned(0, 0, 0);
        C.test("5: 100 above is not more than 100, but than 99", still, Cases.checked(1, 1, 1), "set TOLERANCE 100",
            "reason ~ 7", "set TOLERANCE 99", "reason ~ 5");
        C.test("5: 100 below is not more than 100, but than 99", still, Cases.checked(-1, -1, -1),
            "set TOLERANCE 100", "reason ~ 7", "set TOLERANCE 99", "reason ~ 5");
        C.test("5: a settled error of 200 and checks of 0", Cases.turned(200, 200, 200), Cases.checked(0, 0, 0),
            "set TOLERANCE 200", "reason ~ 7", "set TOLERANCE 199", "reason ~ 5");
        C.test("5: no difference is not more than 0", still, Cases.checked(0, 0, 0), "set TOLERANCE 0", "reason ~ 7");
        C.test("5: two thirds are nothing", still, Cases.checked(1, 1, 0), "set TOLERANCE 0", "reason ~ 7");
        C.test("5: two thirds are nothing below 0", still, Cases.checked(-1, -1, 0), "set TOLERANCE 0", "reason ~ 7");
        C.test("5: four thirds below 0 are -1", still, Cases.checked(-1, -1, -2), "set TOLERANCE 100", "reason ~ 7",
            "set TOLERANCE 99", "reason ~ 5");
        C.test("5: the last three of the full row", still, Cases.checked(900, 900, 0, 0, 0), "set TOLERANCE 0",
            "reason ~ 7");
        C.test("5: the last three behind one more than the full row", still, Cases.checked(900, 900, 900, 0, 0, 0),
            "set TOLERANCE 0", "reason ~ 7", "start 300 0", "observe 0", "reason ~ 5");
        C.test("5: the greatest checks", still, Cases.checked(9000, 9000, 9000), "set TOLERANCE 50000", "reason ~ 5");
    }

    private static void settled() {
        C.says("6 the absolute value of the settled error by turning points is greater than TOLERANCE;");
        C.test("6: 200 is not greater than 200, but than 199", Cases.turned(200, 200, 200), Cases.checked(2, 2, 2),
            "set TOLERANCE 200", "reason ~ 7", "set TOLERANCE 199", "reason ~ 6");
        C.test("6: -200 is not beyond 200, but beyond 199", Cases.turned(-200, -200, -200), Cases.checked(-2, -2, -2),
            "set TOLERANCE 200", "reason ~ 7", "set TOLERANCE 199", "reason ~ 6");
        C.test("6: 0 is not greater than 0", Cases.turned(0, 0, 0), Cases.checked(0, 0, 0), "set TOLERANCE 0",
            "reason ~ 7");
    }

    private static void level() {
        C.says("7 the damping level is 0.");
        String run = Cases.turned(0, 0, 0) + Cases.checked(0, 0, 0);
        C.test("7: the level 0", run, "reason ~ 7");
        C.says("The reason why the compass may not be trusted is the first of these that applies, 0 if none does:");
        for (int level = 1; level <= 4; level++) {
            C.test("0: the level " + level, run, "damp " + level, "reason ~ 0", "damp 0", "reason ~ 7");
        }
    }

    private static void firstOfThem() {
        C.says("The reason why the compass may not be trusted is the first of these that applies, 0 if none does:");
        C.test("all of them, and one less each time", "set SWING 10", "set AGREE 24", "set TOLERANCE 0",
            Cases.turned(100, 0), "reason ~ 1", "start 11 -1", "pass 1 = 1", "reason ~ 2", "set SWING 11",
            "reason ~ 4", "set AGREE 22", "reason ~ 3", "set AGREE 23", "reason ~ 4",
            Cases.checked(9, 9), "reason ~ 4", "observe 0", "reason ~ 5", "set TOLERANCE 873", "reason ~ 7",
            "set TOLERANCE 872", "reason ~ 5", "set TOLERANCE 873", "damp 1", "reason ~ 0");
        C.test("5 comes ahead of 6", Cases.turned(200, 200, 200), Cases.checked(0, 0, 0), "set TOLERANCE 0",
            "reason ~ 5", "set TOLERANCE 200", "damp 1", "reason ~ 0");
        C.test("6 comes ahead of 7", Cases.turned(200, 200, 200), Cases.checked(2, 2, 2), "set TOLERANCE 0",
            "state 6 ~ 0", "reason ~ 6");
    }
    private static void looking() {
        C.says("Returns the reason why the compass may not be trusted.");
        C.test("looking changes nothing", Cases.RICH, "reason ~ 2", "set SWING 51080", "reason ~ 5",
            "set TOLERANCE 5197", "reason ~ 6", "set TOLERANCE 6803", "reason ~ 0", "reason ~ 0");
        C.test("the errors of now are nothing to it", Cases.turned(0, 0, 0), Cases.checked(0, 0, 0), "damp 1",
            "start 900000 100000", "place 70", "reason ~ 0");
    }
}
