/** Promise 24, wipe: its cases. */
public final class Promise24Test {
    private static final Cases C = new Cases("promise 24, wipe");

    public static void main(String[] args) {
        C.says("Empties the pad, and returns the length that it had.");
        C.test("an empty pad", "wipe = 0", "state 20 = 0", "wipe = 0");
        C.test("one character", "put \"c\"", "wipe = 1", "state 20 = 0", "fault ~ 0", "wipe = 0");
        C.test("the full pad", "10 x put \"abcdefgh\"", "wipe = 80", "state 20 = 0", "wipe = 0",
            "10 x put \"abcdefgh\"", "state 20 = 80");
        C.test("nothing of the old text is left", "write \"c1v2m3\"", "wipe = 6", "put \"c4v\"", "fault ~ 3", "wipe = 3",
            "load ! BAD_TEXT");
        C.test("a text with a fault", "put \"xyz\"", "wipe = 3", "write \"c1v2m3\"", "fault ~ NONE");
        C.says("everything except the pad, the slots and the history is as it was before it.");
        C.test("it is no change", Cases.RICH, "wipe = 8", "state 21 = 6");
        C.test("undo does not bring the text back", "start 1 2", "put \"c1\"", "start 3 4", "wipe = 2", "undo = 1",
            "state 20 = 0", "undo = 0", "state 20 = 0");
        C.says("Empties the pad, and returns the length that it had.");
        C.only("the pad, nothing else", Cases.RICH, "wipe = 8", "state 20", "fault");
        C.sameBehind("behind it all is as if nothing had been put", "put \"c1v2m3\"\nwipe\n", "");
        C.end();
    }
}
