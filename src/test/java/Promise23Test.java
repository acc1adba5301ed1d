/** Promise 23, put: its cases. */
public final class Promise23Test {
    private static final Cases C = new Cases("promise 23, put");
    private static final String NINE_TIMES_EIGHT = "9 x put \"abcdefgh\"";

    public static void main(String[] args) {
        counts();
        codes();
        aboveZero();
        fullPad();
        refused();
        whatItChanges();
        C.end();
    }

    private static void counts() {
        C.says("`characters`: 1 to 8 characters");
        C.test("1 character is taken, none is refused", "put \"c\" = 1", "put 0 ! BAD_VALUE", "state 20 = 1");
        C.test("8 characters are taken", "put \"c12v34m5\" = 8", "state 20 = 8", "put \"6\" = 9", "load = 1",
            "state 1 = 1200", "state 2 = 34", "state 4 = 56");
        for (int count = 1; count <= 8; count++) {
            C.test(count + " of a kind", "put \"" + "c~!vm;09".substring(0, count) + "\" = " + count);
        }
        C.says("its lowest 8 bits are the last character, the next 8 bits the one before, and so on;");
        C.test("the lowest 8 bits are the last character", "put 0x6331 = 2", "fault ~ 2", "wipe", "put 0x3163 = 2",
            "fault ~ 0");
        C.test("the highest 8 bits are the first character", "put 0x6331763240403b3b = 8", "fault ~ 4");
    }

    private static void codes() {
        C.says("BAD_VALUE if there is no character, a code is not 33 to 126, or a bit above 8 bits that are 0 is not"
            + " 0;");
        C.test("the code 33 is taken, 32 is refused", "put 33 = 1", "put 32 ! BAD_VALUE", "put 1 ! BAD_VALUE");
        C.test("the code 126 is taken, 127 is refused", "put 126 = 1", "put 127 ! BAD_VALUE", "put 128 ! BAD_VALUE",
            "put 255 ! BAD_VALUE");
        C.test("8 times the code 33", "put 0x2121212121212121 = 8", "put 0x2020202020202020 ! BAD_VALUE");
        C.test("8 times the code 126", "put 0x7e7e7e7e7e7e7e7e = 8", "put 0x7f7f7f7f7f7f7f7f ! BAD_VALUE");
        for (int place = 0; place < 8; place++) {
            C.test("a wrong code at the place " + place + " of 8", put(place, 32), put(place, 127), put(place, 128),
                put(place, 255), put(place, 1), "state 20 = 0");
        }
        C.test("a wrong first code of 2 and of 7", "put 0x2063 ! BAD_VALUE", "put 0x7f63 ! BAD_VALUE",
            "put 0x20636363636363 ! BAD_VALUE", "put 0xff636363636363 ! BAD_VALUE");
    }

    /** Eight characters of which one has another code. */
    private static String put(int place, int code) {
        StringBuilder number = new StringBuilder("put 0x");
        for (int i = 7; i >= 0; i--) {
            number.append(i == place ? String.format("%02x", code) : "63");
        }
        return number + " ! BAD_VALUE";
    }

    private static void aboveZero() {
        C.says("8 bits that are 0 mean that there are no more characters, and everything above them has to be 0,"
            + " too.");
        C.test("a character above 8 bits of 0", "put 0x630063 ! BAD_VALUE", "put 0x6300 ! BAD_VALUE",
            "put 0x6300000000000063 ! BAD_VALUE", "put 0x6300636363636363 ! BAD_VALUE",
            "put 0x6363636363636300 ! BAD_VALUE", "state 20 = 0");
        C.test("one bit above 8 bits of 0", "put 0x10063 ! BAD_VALUE", "put 0x100000000000063 ! BAD_VALUE",
            "put 0x8000000000000063 ! BAD_VALUE", "put 0x8000000000000000 ! BAD_VALUE", "put 0x100 ! BAD_VALUE",
            "put 0x100000000 ! BAD_VALUE", "put 0x10000000000 ! BAD_VALUE");
        C.test("nothing but 0 above them", "put 0x63 = 1", "put 0x63636363 = 5", "put 0x63636363636363 = 12");
    }

    private static void fullPad() {
        C.says("Returns the length of the pad then;");
        C.test("80 characters are taken, the 81st is refused", NINE_TIMES_EIGHT, "put \"abcdefg\" = 79",
            "put \"a\" = 80", "put \"a\" ! TOO_MANY", "state 20 = 80");
        C.says("TOO_MANY if the pad would be longer than 80.");
        C.test("8 characters behind 72 are taken", NINE_TIMES_EIGHT, "put \"abcdefgh\" = 80",
            "put \"abcdefgh\" ! TOO_MANY");
        C.test("8 characters behind 73 are refused, 7 are taken", NINE_TIMES_EIGHT, "put \"a\" = 73",
            "put \"abcdefgh\" ! TOO_MANY", "state 20 = 73", "put \"abcdefg\" = 80");
        C.test("2 characters behind 79 are refused, 1 is taken", NINE_TIMES_EIGHT, "put \"abcdefg\" = 79",
            "put \"ab\" ! TOO_MANY", "state 20 = 79", "put \"a\" = 80");
        C.test("there is room again when it is wiped", "10 x put \"abcdefgh\"", "put \"a\" ! TOO_MANY", "wipe = 80",
            "put \"abcdefgh\" = 8");
        C.says("it names its errors in the order in which they are checked, and the first one that applies is"
            + " returned.");
        C.test("a wrong character comes ahead of the full pad", "10 x put \"abcdefgh\"", "put 0 ! BAD_VALUE",
            "put 32 ! BAD_VALUE", "put 127 ! BAD_VALUE", "put 0x630063 ! BAD_VALUE", "put \"a\" ! TOO_MANY");
    }

    private static void refused() {
        C.says("A call that returns an error changes nothing.");
        C.test("a refused one changes nothing", Cases.RICH, "put 0 ! BAD_VALUE", "put 0x6320 ! BAD_VALUE",
            "put 0x630063 ! BAD_VALUE", "9 x put \"abcdefgh\"", "put \"a\" ! TOO_MANY", "put \"abcdefgh\" ! TOO_MANY");
        C.test("nothing of a refused text is put", "put 0x63317620 ! BAD_VALUE", "put 0x20633176 ! BAD_VALUE",
            "put \"c1v2m3\" = 6", "fault ~ NONE");
        C.says("A history of at most 6 states is kept: each method that is a change, and returns no error, records"
            + " the state before it (also if nothing is different then);");
        C.test("it is no change", "put \"c\"", "state 21 = 0", "undo ! NOT_POSSIBLE", "state 20 = 1");
    }
    private static void whatItChanges() {
        C.says("Appends characters to the pad. They are given as a number:");
        C.only("the pad, nothing else", Cases.RICH, "put \"4v5\"", "state 20", "fault");
        C.test("behind those that are there, in their order", "put \"c12v\" = 4", "put \"34m56\" = 9", "load = 1",
            "state 1 = 1200", "state 2 = 34", "state 4 = 56");
        C.sameBehind("one by one or at once", Cases.RICH + "put \"4v5m6\"\n",
            Cases.RICH + "put \"4\"\nput \"v\"\nput \"5\"\nput \"m\"\nput \"6\"\n");
    }
}
