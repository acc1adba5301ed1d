/** Promise 26, load: its cases. */
public final class Promise26Test {
    private static final Cases C = new Cases("promise 26, load");
    private static final String EIGHT = "write \"c1v1m1;c2v2m2;c3v3m3;c4v4m4;c5v5m5;c6v6m6;c7v7m7;c8v8m8\"";

    public static void main(String[] args) {
        faults();
        tooMany();
        legs();
        pad();
        whatItChanges();
        C.end();
    }

    private static void faults() {
        C.says("Returns the number of legs then; BAD_TEXT if the pad has a fault;");
        C.test("an empty pad", "load ! BAD_TEXT", "state 21 = 0");
        C.test("a text that ends too early", "write \"c1v2m3;\"", "load ! BAD_TEXT", "state 3 = 0", "state 20 = 7",
            "state 1 = 0");
        C.test("a fault in the last leg: none of them is added", "write \"c1v2m3;c4v5m601\"", "load ! BAD_TEXT",
            "state 3 = 0", "state 2 = 0", "state 20 = 15");
        C.test("each number at its ends", "write \"c0v0m1;c359v400m600\"", "load = 2", "state 1 = 0", "state 2 = 0",
            "state 4 = 1", "pass 1", "state 1 = 35900", "state 2 = 400", "state 4 = 600");
        C.test("each number beyond its end", "write \"c360v0m1\"", "load ! BAD_TEXT", "wipe", "write \"c0v401m1\"",
            "load ! BAD_TEXT", "wipe", "write \"c0v0m0\"", "load ! BAD_TEXT", "wipe", "write \"c0v0m601\"",
            "load ! BAD_TEXT");
        C.test("a text that is mended", "write \"c1v2m\"", "load ! BAD_TEXT", "put \"3\"", "load = 1", "state 20 = 0");
    }

    private static void tooMany() {
        C.says("TOO_MANY if there would be more than 8.");
        C.test("eight legs on the pad are taken", EIGHT, "load = 8", "state 3 = 8", "state 1 = 100", "state 4 = 1");
        C.test("nine legs on the pad are refused", EIGHT, "write \";c9v9m9\"", "fault ~ NONE", "load ! TOO_MANY",
            "state 3 = 0", "state 20 = 62", "state 2 = 0");
        C.test("one leg behind seven is taken, behind eight it is refused", "7 x leg 1 2 3", "write \"c1v2m3\"",
            "load = 8", "write \"c1v2m3\"", "load ! TOO_MANY", "state 3 = 8", "state 20 = 6");
        C.test("two legs behind six are taken, behind seven they are refused", "6 x leg 1 2 3",
            "write \"c1v2m3;c4v5m6\"", "load = 8", "undo", "leg 1 2 3 = 7", "write \"c1v2m3;c4v5m6\"",
            "load ! TOO_MANY", "state 3 = 7");
        C.test("there is room again when a leg is done", "8 x leg 1 2 3", "write \"c1v2m3\"", "load ! TOO_MANY",
            "pass 3", "load = 8", "state 20 = 0");
        C.test("eleven legs, as many as the pad holds", "write \"c1v1m1;c2v2m2;c3v3m3;c4v4m4;c5v5m5;c6v6m6;c7v7m7;"
            + "c8v8m8;c9v9m9;c0v0m1;c0v0m1\"", "load ! TOO_MANY", "state 3 = 0", "state 20 = 76");
        C.says("it names its errors in the order in which they are checked, and the first one that applies is"
            + " returned.");
        C.test("a fault comes ahead of the full row", "8 x leg 1 2 3", "load ! BAD_TEXT", "write \"c1v2m3;\"",
            "load ! BAD_TEXT", "put \"c4v5m6\"", "load ! TOO_MANY");
        C.test("a fault comes ahead of too many legs on the pad", EIGHT, "write \";c9v9m9;\"", "load ! BAD_TEXT");
    }

    private static void legs() {
        C.says("Adds all legs of the pad behind all others, and empties the pad.");
        C.test("in an empty row the first one is sailed at once", "steer 5 6", "write \"c7v8m9;c10v11m12\"", "load = 2",
            "state 1 = 700", "state 2 = 8", "state 4 = 9");
        C.test("behind another one it is not", "leg 5 6 7", "write \"c7v8m9\"", "load = 2", "state 1 = 5", "state 2 = 6",
            "state 4 = 7", "pass 7", "state 1 = 700", "state 2 = 8", "state 4 = 9");
        C.test("eight legs in their order", EIGHT, "load = 8", "pass 1", "state 1 = 200", "state 2 = 2", "pass 2",
            "state 1 = 300", "pass 3", "state 1 = 400", "pass 4", "state 1 = 500", "pass 5", "state 1 = 600", "pass 6",
            "state 1 = 700", "pass 7", "state 1 = 800", "state 4 = 8", "pass 8", "state 3 = 0", "state 2 = 0",
            "state 1 = 800");
    }

    private static void pad() {
        C.says("Adds all legs of the pad behind all others, and empties the pad.");
        C.test("the pad is empty then", "write \"c1v2m3\"", "load = 1", "state 20 = 0", "fault ~ 0", "load ! BAD_TEXT",
            "wipe = 0");
        C.test("a full pad is empty then", "write \"c10v100m100;" + "c100v100m100;".repeat(4) + "c1v1m1;c100v1m10\"",
            "state 20 = 80", "load = 7", "state 20 = 0", "put \"c\" = 1");
        C.says("everything except the pad, the slots and the history is as it was before it.");
        C.test("undo drops the legs, and leaves the pad empty", "steer 5 6", "write \"c1v2m3\"", "load = 1", "undo = 1",
            "state 3 = 0", "state 1 = 5", "state 2 = 6", "state 20 = 0");
        C.says("A call that returns an error changes nothing.");
        C.test("a refused one changes nothing, pad and history neither", Cases.RICH, "load ! BAD_TEXT", "put \"7v8m9\"",
            "5 x leg 1 2 3", "load ! TOO_MANY");
    }
    private static void whatItChanges() {
        C.says("This is a change.");
        C.only("the legs and the pad, nothing else", Cases.RICH + "put \"7v8m9\"\n", "load = 4", "state 3", "state 20",
            "fault");
        C.only("the first leg: its course, speed and minutes, and R with them", Cases.RICH
            + "steer 200 20\nput \"7v8m9\"\n", "load = 2", "state 1", "state 2", "state 3", "state 4",
            "state 20", "fault", "compass 2");
        C.sameBehind("undo takes it back, but for the pad", Cases.ROOM + "put \"7v8m9\"\nload = 3\nundo\n",
            Cases.ROOM + "wipe\n");
        C.test("courses are in whole degrees there, in hundredths in the ship", "write \"c123v4m5\"", "load = 1",
            "state 1 = 12300", "state 2 = 4", "state 4 = 5");
    }
}
