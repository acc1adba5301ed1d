/** Promises 23 to 26: put, wipe, fault, load. */
public final class TextsTest {
    private static final Due T = new Due();

    public static void main(String[] args) {
        put();
        wrongCharacters();
        fullPad();
        wipe();
        faults();
        load();
        loadTooMany();
        loadKeepsWhatItRefuses();
        T.end();
    }

    private static long packed(String part) {
        long number = 0;
        for (int i = 0; i < part.length(); i++) {
            number = number << 8 | part.charAt(i);
        }
        return number;
    }

    /** A new object with a text on its pad. */
    private static GyroTrainer with(String text) {
        GyroTrainer x = new GyroTrainer();
        write(x, text);
        return x;
    }

    private static void write(GyroTrainer x, String text) {
        int before = x.state(20);
        for (int from = 0; from < text.length(); from += 8) {
            int to = Math.min(from + 8, text.length());
            T.due("put of " + text, x.put(packed(text.substring(from, to))), before + to);
        }
    }

    private static void put() {
        GyroTrainer x = new GyroTrainer();
        T.due("one", x.put(packed("c")), 1);
        T.due("seven", x.put(packed("12v34m5")), 8);
        T.due("eight", x.put(packed("6;c0v0m6")), 16);
        T.due("two", x.put(packed("00")), 18);
        T.due("length", x.state(20), 18);
        T.due("no change", x.state(21), 0);
        T.due("fault", x.fault(), -6);
        T.due("load", x.load(), 2);
        T.due("course", x.state(1), 1200);
        T.due("speed", x.state(2), 34);
        T.due("minutes", x.state(4), 56);
        x.steer(5, 6);
        T.due("undo is nothing to the pad", x.put(packed("c")), 1);
        x.undo();
        T.due("length", x.state(20), 1);
    }

    private static void wrongCharacters() {
        GyroTrainer x = new GyroTrainer();
        long[] wrong = {0, 32, 127, 128, 255, 1, -1, Long.MIN_VALUE, Long.MAX_VALUE, 0x6300L, 0x630063L,
            0x6300000000000063L, 0x0100000000000063L, 0x6363636363636320L, 0x2063636363636363L, 0x7f63L, 0x8063L,
            0x6300636363636363L, 256};
        for (long characters : wrong) {
            T.due("put " + Long.toHexString(characters), x.put(characters), -2);
        }
        T.due("length", x.state(20), 0);
        T.due("the least code", x.put(33), 1);
        T.due("the greatest code", x.put(126), 2);
        T.due("eight of the greatest", x.put(0x7e7e7e7e7e7e7e7eL), 10);
    }

    private static void fullPad() {
        GyroTrainer x = new GyroTrainer();
        for (int i = 1; i <= 9; i++) {
            T.due("put", x.put(packed("abcdefgh")), 8 * i);
        }
        T.due("put", x.put(packed("abc")), 75);
        T.due("too long", x.put(packed("abcdef")), -4);
        T.due("a wrong one: the value comes first", x.put(packed("abcdef ")), -2);
        T.due("length", x.state(20), 75);
        T.due("just full", x.put(packed("abcde")), 80);
        T.due("one more", x.put(packed("a")), -4);
        T.due("a wrong one", x.put(0), -2);
        T.due("wipe", x.wipe(), 80);
        T.due("put", x.put(packed("a")), 1);
    }

    private static void wipe() {
        GyroTrainer x = new GyroTrainer();
        T.due("wipe of nothing", x.wipe(), 0);
        write(x, "c1v2m3");
        T.due("wipe", x.wipe(), 6);
        T.due("length", x.state(20), 0);
        T.due("no change", x.state(21), 0);
        T.due("fault", x.fault(), 0);
        write(x, "c4v5m6");
        T.due("load", x.load(), 1);
        T.due("course", x.state(1), 400);
    }

    private static void faults() {
        String[] right = {"c0v0m1", "c359v400m600", "c1v1m1;c10v10m10;c100v100m100", "c9v9m9", "c99v99m99",
            "c299v399m599", "c300v100m100", "c0v0m1;c0v0m1;c0v0m1;c0v0m1;c0v0m1;c0v0m1;c0v0m1;c0v0m1;c0v0m1"};
        for (String text : right) {
            T.due("fault of " + text, with(text).fault(), -6);
        }
        Object[][] wrong = {{"", 0}, {"c", 1}, {"c1", 2}, {"c1v", 3}, {"c1v2", 4}, {"c1v2m", 5}, {"c1v2m3;", 7},
            {"c1v2m3;c", 8}, {"C", 0}, {"v", 0}, {";", 0}, {"0", 0}, {"cv", 1}, {"cc", 1}, {"c1m", 2}, {"c1c", 2},
            {"c01", 2}, {"c00", 2}, {"c360", 3}, {"c400", 3}, {"c36v", 4}, {"c1000", 4}, {"c3599", 4}, {"c1vv", 3},
            {"c1vm", 3}, {"c1v00", 4}, {"c1v401", 5}, {"c1v410", 5}, {"c1v500", 5}, {"c1v4000", 6}, {"c1v2v", 4},
            {"c1v2;", 4}, {"c1v2m0", 5}, {"c1v2m01", 5}, {"c1v2m601", 7}, {"c1v2m610", 7}, {"c1v2m700", 7},
            {"c1v2m6000", 8}, {"c1v2m3c", 6}, {"c1v2m3,", 6}, {"c1v2m3;;", 7}, {"c1v2m3;v", 7}, {"c1v2m;", 5},
            {"c-1", 1}, {"c1:", 2}, {"c1/", 2}, {"c1v2m3;c1v2m3x", 13}, {"c1v2m3;c361v2m3", 10}, {"c99999999999", 3}};
        for (Object[] w : wrong) {
            T.due("fault of " + w[0], with((String) w[0]).fault(), (Integer) w[1]);
            T.due("load of " + w[0], with((String) w[0]).load(), -3);
        }
        String full = "c100v100m100;c100v100m100;c100v100m100;c100v100m100;c100v100m100;c100v100m1;c1v";
        T.due("fault of a full pad", with(full + "1").fault(), 80);
        T.due("length", full.length(), 79);
        GyroTrainer x = with("c1v2");
        T.due("fault", x.fault(), 4);
        T.due("fault again", x.fault(), 4);
        T.due("length stays", x.state(20), 4);
        T.due("no change", x.state(21), 0);
        write(x, "m3");
        T.due("no fault then", x.fault(), -6);
    }

    private static void load() {
        GyroTrainer x = new GyroTrainer();
        x.leg(5, 6, 7);
        write(x, "c359v400m600;c0v0m1");
        T.due("load", x.load(), 3);
        T.due("the pad is empty", x.state(20), 0);
        T.due("a change", x.state(21), 2);
        T.due("the first leg goes on", x.state(1), 5);
        x.pass(7);
        T.due("course", x.state(1), 35900);
        T.due("speed", x.state(2), 400);
        T.due("minutes", x.state(4), 600);
        x.pass(600);
        T.due("course", x.state(1), 0);
        T.due("speed", x.state(2), 0);
        T.due("minutes", x.state(4), 1);
        T.due("load of nothing", x.load(), -3);
        x.undo();
        x.undo();
        T.due("undo of load", x.undo(), 1);
        T.due("legs", x.state(3), 1);
        T.due("the pad stays empty", x.state(20), 0);
    }

    private static void loadTooMany() {
        GyroTrainer x = with("c1v1m1;c2v2m2;c3v3m3");
        for (int i = 0; i < 6; i++) {
            x.leg(0, 0, 1);
        }
        T.due("nine legs", x.load(), -4);
        T.due("legs", x.state(3), 6);
        T.due("the pad stays", x.state(20), 20);
        x.pass(1);
        T.due("eight legs", x.load(), 8);
        T.due("the pad is empty", x.state(20), 0);
        x = with("c1v1m1;c2v2m2;c3v3m3;c4v4m4;c5v5m5;c6v6m6;c7v7m7;c8v8m8;c9v9m9;c0v0m1;c0v0m1");
        T.due("eleven legs without a fault", x.fault(), -6);
        T.due("eleven legs", x.load(), -4);
        T.due("no legs", x.state(3), 0);
        T.due("speed", x.state(2), 0);
        x.wipe();
        write(x, "c1v1m1;c2v2m2;c3v3m3;c4v4m4;c5v5m5;c6v6m6;c7v7m7;c8v8m8");
        T.due("eight legs", x.load(), 8);
        for (int i = 1; i <= 8; i++) {
            T.due("course", x.state(1), 100 * i);
            T.due("speed", x.state(2), i);
            T.due("minutes", x.state(4), i);
            x.pass(i);
        }
        T.due("no legs", x.state(3), 0);
    }

    private static void loadKeepsWhatItRefuses() {
        GyroTrainer x = with("c1v1m1;x");
        for (int i = 0; i < 8; i++) {
            x.leg(0, 0, 1);
        }
        x.forgetSwings();
        T.due("the fault comes ahead of the number of legs", x.load(), -3);
        T.due("the pad stays", x.state(20), 8);
        T.due("legs", x.state(3), 8);
        T.due("no change more", x.undo(), 5);
    }
}
