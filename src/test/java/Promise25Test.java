/** Promise 25, fault: its cases. */
public final class Promise25Test {
    private static final Cases C = new Cases("promise 25, fault");

    public static void main(String[] args) {
        numbers();
        leadingZeros();
        places();
        tooEarly();
        lengths();
        looking();
        grammar();
        C.end();
    }

    /** The faults of texts, NONE as -6. */
    private static void faults(String name, Object... textsAndFaults) {
        StringBuilder run = new StringBuilder();
        for (int i = 0; i < textsAndFaults.length; i += 2) {
            run.append("write \"").append(textsAndFaults[i]).append("\"\nfault = ").append(textsAndFaults[i + 1])
                .append("\nwipe\n");
        }
        C.test(name, run.toString());
    }

    private static void numbers() {
        C.says("for a course in whole degrees (0 to 359), a speed (0 to 400) and minutes (1 to 600).");
        faults("the course 0 and the course 359 stand", "c0v1m1", -6, "c359v1m1", -6, "c360v1m1", 3, "c361v1m1", 3,
            "c369v1m1", 3);
        faults("the speed 0 and the speed 400 stand", "c1v0m1", -6, "c1v400m1", -6, "c1v401m1", 5, "c1v409m1", 5);
        faults("1 minute and 600 minutes stand", "c1v1m1", -6, "c1v1m600", -6, "c1v1m601", 7, "c1v1m609", 7,
            "c1v1m0", 5);
        C.says("(also of a digit by which a number would be too great)");
        faults("a course with a digit too much", "c370", 3, "c400", 3, "c999", 3, "c100", 4, "c1000", 4, "c3590", 4,
            "c3599", 4, "c99999999999", 3);
        faults("a course of one, two and three digits", "c9v1m1", -6, "c99v1m1", -6, "c299v1m1", -6, "c300v1m1", -6,
            "c35v1m1", -6, "c36v1m1", -6);
        faults("a speed with a digit too much", "c1v410", 5, "c1v500", 5, "c1v999", 5, "c1v100", 6, "c1v1000", 6,
            "c1v4000", 6, "c1v99999999999", 5);
        faults("a speed of one, two and three digits", "c1v9m1", -6, "c1v99m1", -6, "c1v399m1", -6, "c1v40m1", -6,
            "c1v41m1", -6);
        faults("minutes with a digit too much", "c1v1m610", 7, "c1v1m700", 7, "c1v1m999", 7, "c1v1m1000", 8,
            "c1v1m6000", 8, "c1v1m99999999999", 7);
        faults("minutes of one, two and three digits", "c1v1m9", -6, "c1v1m99", -6, "c1v1m599", -6, "c1v1m60", -6,
            "c1v1m61", -6);
    }

    private static void leadingZeros() {
        C.says("Numbers are without leading zeros.");
        faults("a course with a leading zero", "c00v1m1", 2, "c01v1m1", 2, "c0359v1m1", 2, "c10v1m1", -6);
        faults("a speed with a leading zero", "c1v00m1", 4, "c1v01m1", 4, "c1v0400m1", 4, "c1v10m1", -6);
        faults("minutes with a leading zero", "c1v1m00", 5, "c1v1m01", 5, "c1v1m0600", 5, "c1v1m10", -6);
        faults("zeros within a number and at its end", "c100v100m100", -6, "c101v101m101", -6);
    }

    private static void places() {
        C.says("The fault is the index of the first character that cannot stand at its place when the text is read"
            + " from left to right");
        faults("at the first place", "v", 0, "m", 0, ";", 0, "0", 0, "1", 0, "C", 0, "!", 0, "~", 0, ";c1v2m3", 0);
        faults("in place of a course", "cc", 1, "cv2m3", 1, "c;", 1, "c-1", 1, "c/", 1, "c:", 1, "c!", 1);
        faults("behind a course", "c1m", 2, "c1c", 2, "c1;", 2, "c1/", 2, "c1:", 2, "c0;", 2, "c359;", 4, "c1V", 2);
        faults("in place of a speed", "c1vv", 3, "c1vm3", 3, "c1v;", 3, "c1v-", 3, "c1v/", 3, "c1v:", 3);
        faults("behind a speed", "c1v2v", 4, "c1v2;", 4, "c1v2c", 4, "c1v2/", 4, "c1v2:", 4, "c1v0;", 4, "c1v400;", 6,
            "c1v2M", 4);
        faults("in place of minutes", "c1v2mm", 5, "c1v2m;", 5, "c1v2mc", 5, "c1v2m-", 5, "c1v2m/", 5, "c1v2m:", 5);
        faults("behind minutes", "c1v2m3c", 6, "c1v2m3m", 6, "c1v2m3v", 6, "c1v2m3,", 6, "c1v2m3:", 6, "c1v2m3/", 6,
            "c1v2m3!", 6, "c1v2m600!", 8);
        faults("behind a semicolon", "c1v2m3;;", 7, "c1v2m3;v", 7, "c1v2m3;1", 7, "c1v2m3;C", 7);
        faults("in the second leg", "c1v2m3;c360v2m3", 10, "c1v2m3;c1v401m3", 12, "c1v2m3;c1v2m0", 12,
            "c1v2m3;c1v2m3x", 13, "c1v2m3;c01v2m3", 9);
        faults("the first of several", "x1v2y", 0, "c360v401m601", 3, "c1v401m601", 5, "c1v2m601;x", 7);
    }

    private static void tooEarly() {
        C.says("if there is none and the text ends too early (also if it is empty), it is the length of the text.");
        C.test("an empty pad", "fault ~ 0", "load ! BAD_TEXT");
        faults("in the first leg", "c", 1, "c1", 2, "c359", 4, "c1v", 3, "c1v2", 4, "c1v400", 6, "c1v2m", 5);
        faults("in the second leg, too early", "c1v2m3;", 7, "c1v2m3;c", 8, "c1v2m3;c4", 9, "c1v2m3;c4v", 10,
            "c1v2m3;c4v5", 11, "c1v2m3;c4v5m", 12, "c1v2m3;c4v5m6", -6);
        C.test("each character that is still to come moves it", "put \"c\"", "fault ~ 1", "put \"0\"", "fault ~ 2",
            "put \"v\"", "fault ~ 3", "put \"0\"", "fault ~ 4", "put \"m\"", "fault ~ 5", "put \"1\"", "fault ~ NONE",
            "put \"0\"", "fault ~ NONE", "put \"0\"", "fault ~ NONE", "put \"0\"", "fault ~ 8");
    }

    private static void lengths() {
        C.says("The pad is a text of at most 80 characters, from which legs are read:");
        String six = "c100v100m100;".repeat(6);
        faults("80 characters that end too early", six + "c1", 80, six + "c0", 80);
        faults("79 and 78 characters that end too early", six + "c", 79, six, 78);
        faults("80 characters with a fault at the last place", six + "cc", 79, six + "c;", 79);
        faults("80 characters without a fault", "c10v100m100;" + "c100v100m100;".repeat(4) + "c1v1m1;c100v1m10", -6);
        C.test("80 characters: the length is 80", "write \"c10v100m100;" + "c100v100m100;".repeat(4)
            + "c1v1m1;c100v1m1\"", "state 20 = 79", "put \"0\" = 80", "fault ~ NONE", "put \"0\" ! TOO_MANY");
        C.says("legs = leg { \";\" leg }");
        faults("more legs than the ship has room for", "c0v0m1;".repeat(8) + "c0v0m1", -6, "c0v0m1;".repeat(10)
            + "c0v0m1", -6, "c0v0m1;".repeat(11), 77, "c0v0m1;".repeat(11) + "c0v", 80);
        faults("one leg", "c0v0m1", -6);
    }

    private static void looking() {
        C.says("Returns the fault of the pad, NONE if there is none.");
        C.test("it changes nothing", Cases.RICH, "fault ~ 8", "put \"x\"", "fault ~ 8", "fault ~ 8");
        C.test("a fault behind one that was mended", "put \"x\"", "fault ~ 0", "wipe", "write \"c1v2m3\"", "fault ~ NONE",
            "fault ~ NONE", "load = 1", "fault ~ 0");
    }
    private static void grammar() {
        C.says("leg = \"c\" number \"v\" number \"m\" number");
        faults("the letters in another order", "v1c2m3", 0, "c1m2v3", 2, "m1v2c3", 0);
        faults("a letter that is missing", "1v2m3", 0, "c12m3", 3, "c1v23", 5);
        faults("a number that is missing", "cv2m3", 1, "c1vm3", 3, "c1v2m;c1v2m3", 5);
        C.test("no legs are added by looking at the fault", "write \"c1v2m3\"", "fault ~ NONE", "state 3 = 0",
            "state 20 = 6");
    }
}
