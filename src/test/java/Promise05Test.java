/** Promise 5, line: its cases. */
public final class Promise05Test {
    private static final Cases C = new Cases("promise 5, line");

    public static void main(String[] args) {
        range();
        row();
        refused();
        whatItChanges();
        C.end();
    }

    private static void range() {
        C.says("`bearing`: its true bearing, 0 to 35999");
        C.test("0 is taken, -1 is refused", "set NOISE 0", "line 0 = 0", "line -1 ! BAD_VALUE",
            "line MIN ! BAD_VALUE", "state 19 = 1", "observe 0 = 0");
        C.test("35999 is taken, 36000 is refused", "set NOISE 0", "line 35999 = 0", "line 36000 ! BAD_VALUE",
            "line MAX ! BAD_VALUE", "state 19 = 1", "observe 0 = 35999");
    }

    private static void row() {
        C.says("Everything is numbered from 0.");
        C.test("the first line has the number 0", "line 9000 = 0", "line 9000 = 1", "state 19 = 2");
        C.says("Returns its number; BAD_VALUE if bearing is out of range; TOO_MANY if there are 6.");
        C.test("the sixth one is taken, the seventh is refused", "5 x line 10", "line 20 = 5", "state 19 = 6",
            "line 30 ! TOO_MANY", "line 0 ! TOO_MANY", "state 19 = 6", "set NOISE 0", "observe 5 = 20",
            "observe 0 = 10");
        C.test("there is room again when one is undone", "6 x line 10", "line 30 ! TOO_MANY", "undo",
            "line 40 = 5", "line 50 ! TOO_MANY");
        C.test("there is room again when fewer are restored", "5 x line 10", "save 0", "line 10",
            "line 30 ! TOO_MANY", "restore 0", "line 40 = 5", "line 50 ! TOO_MANY");
        C.says("it names its errors in the order in which they are checked, and the first one that applies is"
            + " returned.");
        C.test("out of range comes ahead of the full row", "6 x line 10", "line -1 ! BAD_VALUE",
            "line 36000 ! BAD_VALUE", "line 35999 ! TOO_MANY");
    }

    private static void refused() {
        C.says("A call that returns an error changes nothing.");
        C.test("a refused one changes nothing, the history neither", Cases.RICH, "line -1 ! BAD_VALUE",
            "line 36000 ! BAD_VALUE", "4 x line 5", "line 7 ! TOO_MANY");
    }
    private static void whatItChanges() {
        C.says("Adds a reference line. This is a change.");
        C.only("a line more, nothing else", Cases.RICH, "line 77", "state 19");
        C.undone("undo takes it back", Cases.ROOM, "line 77");
        C.test("the lines that are there stay", "set NOISE 0", "line 10", "line 20", "line 30", "observe 0 = 10",
            "observe 1 = 20", "observe 2 = 30", "observe 0 = 10");
    }
}
