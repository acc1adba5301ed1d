import java.util.Random;

/** All promises: runs of calls, each answer compared with that of the model. */
public final class ModelTest {
    private static final Due T = new Due();
    private static final int RUNS = 400;
    private static final int TEXT_RUNS = 200;
    // The looks at the end of a run count, too: 31 of state and 11 of compass.
    private static final int CALLS = Calls.MOST - 42;
    private static final String[] ACTS = {"set", "start", "place", "line", "steer", "leg", "pass", "pass", "pass",
        "pass", "damp", "correct", "forgetSwings", "observe", "observe", "guess", "put", "put", "put", "wipe",
        "load", "load", "undo", "undo", "save", "restore"};
    private static final String[] LOOKS = {"compass", "turn", "check", "reason", "state", "wave", "restAt", "fault",
        "calmIn", "bestLevel"};
    private static final int[][] RANGES = {{1, 100}, {1, 1000}, {0, 30000}, {0, 100000}, {0, 20000},
        {0, 50000}, {0, 500}, {0, 65535}, {0, 60}};
    private static final int[] WILD = {Integer.MIN_VALUE, Integer.MAX_VALUE, -1, -1000000000, 1000000000};

    private static Random random;
    private static String text = "";

    public static void main(String[] args) {
        for (int run = 0; run < RUNS; run++) {
            random = new Random(run);
            text = "";
            runOnce(run);
        }
        for (int run = RUNS; run < RUNS + TEXT_RUNS; run++) {
            random = new Random(run);
            runTexts(run);
        }
        T.end();
    }

    /** Whole texts, most of them with at most one slip. */
    private static void runTexts(int run) {
        Calls x = new Calls();
        Model model = new Model();
        for (int round = 0; round < 20; round++) {
            String written = slipped(legs(1 + random.nextInt(random.nextInt(4) == 0 ? 11 : 3)));
            for (int from = 0; from < written.length(); from += 8) {
                String part = written.substring(from, Math.min(from + 8, written.length()));
                compare(run, x, model, "put", packed(part));
            }
            compare(run, x, model, "fault");
            compare(run, x, model, "load");
            compare(run, x, model, "state", 3);
            compare(run, x, model, "pass", 1 + random.nextInt(600));
            compare(run, x, model, random.nextBoolean() ? "wipe" : "undo");
            compare(run, x, model, "wipe");
            compare(run, x, model, "fault");
            for (int what = 0; what < 6; what++) {
                compare(run, x, model, "state", what);
            }
        }
    }

    private static String legs(int count) {
        StringBuilder legs = new StringBuilder();
        for (int i = 0; i < count; i++) {
            boolean brief = count > 5;
            legs.append(i == 0 ? "" : ";").append('c').append(random.nextInt(brief ? 10 : 360))
                .append('v').append(random.nextInt(brief ? 10 : 401))
                .append('m').append(1 + random.nextInt(brief ? 9 : 600));
        }
        return legs.toString();
    }

    private static String slipped(String written) {
        int at = random.nextInt(written.length());
        String signs = "cvm;0123456789!~C";
        char sign = signs.charAt(random.nextInt(signs.length()));
        switch (random.nextInt(6)) {
            case 0: return written.substring(0, at) + written.substring(at + 1);
            case 1: return written.substring(0, at) + sign + written.substring(at);
            case 2: return written.substring(0, at) + sign + written.substring(at + 1);
            case 3: return written.substring(0, at);
            default: return written;
        }
    }

    private static long packed(String part) {
        long number = 0;
        for (int i = 0; i < part.length(); i++) {
            number = number << 8 | part.charAt(i);
        }
        return number;
    }

    private static void compare(int run, Calls x, Model model, String name, long... v) {
        StringBuilder told = new StringBuilder("run " + run + ": " + name);
        for (long value : v) {
            told.append(' ').append(value);
        }
        T.due(told.toString(), x.answer(name, v), model.call(name, v));
    }

    private static void runOnce(int run) {
        Calls x = new Calls();
        Model model = new Model();
        // Some runs pass long times (up to the greatest one), the others look around more.
        int longPart = run % 20 == 0 ? 60 : 0;
        for (int call = 0; call < CALLS; call++) {
            boolean act = random.nextInt(100) < 60;
            String name = random.nextInt(100) < longPart ? "pass"
                : act ? ACTS[random.nextInt(ACTS.length)] : LOOKS[random.nextInt(LOOKS.length)];
            long[] v = name.equals("pass") && longPart > 0 ? new long[] {600} : arguments(name);
            compare(run, x, model, name, v);
        }
        for (int what = 0; what < 31; what++) {
            compare(run, x, model, "state", what);
        }
        for (int what = 0; what < 11; what++) {
            compare(run, x, model, "compass", what);
        }
    }

    /** A number of a range, often one of its ends, at times one beside it or a wild one. */
    private static long within(int least, int most) {
        int kind = random.nextInt(60);
        switch (kind) {
            case 0: return least - 1L;
            case 1: return most + 1L;
            case 2: return WILD[random.nextInt(WILD.length)];
            case 3: case 4: return least;
            case 5: case 6: return most;
            default: return least + (long) (random.nextDouble() * ((long) most - least + 1));
        }
    }

    private static long small(int most) {
        return random.nextInt(3) == 0 ? random.nextInt(most + 1) : within(-most, most);
    }

    private static long[] arguments(String name) {
        switch (name) {
            case "set":
                int setting = (int) within(0, 8);
                int[] range = setting >= 0 && setting <= 8 ? RANGES[setting] : new int[] {0, 5};
                return new long[] {setting, within(range[0], range[1])};
            case "start":
                return random.nextBoolean() ? new long[] {within(-50000, 50000), within(-5000, 5000)}
                    : new long[] {within(-900000, 900000), within(-100000, 100000)};
            case "place": return new long[] {within(-70, 70)};
            case "line": return new long[] {within(0, 35999)};
            case "steer": return new long[] {within(0, 35999), within(0, 400)};
            case "leg": return new long[] {within(0, 35999), within(0, 400),
                random.nextBoolean() ? within(1, 600) : 1 + random.nextInt(20)};
            case "pass": return new long[] {random.nextInt(3) == 0 ? within(1, 600) : 1 + random.nextInt(60)};
            case "damp": return new long[] {within(0, 4)};
            case "correct": return new long[] {within(-70, 70), within(0, 400)};
            case "observe": return new long[] {within(0, 5)};
            case "guess": return new long[] {small(1800000)};
            case "compass": return new long[] {within(0, 10)};
            case "turn": return new long[] {within(0, 8), within(0, 1)};
            case "check": return new long[] {within(0, 5)};
            case "state": return new long[] {within(0, 30)};
            case "wave": return new long[] {within(0, 35999), within(0, 1)};
            case "restAt": return new long[] {within(-70, 70), within(0, 400), within(0, 35999)};
            case "calmIn": return new long[] {random.nextInt(4) == 0 ? within(0, 100000) : within(0, 5000),
                random.nextInt(8) == 0 ? within(1, 2000) : within(1, 300)};
            case "bestLevel": return new long[] {random.nextInt(4) == 0 ? within(0, 100000) : within(0, 5000),
                random.nextInt(4) == 0 ? within(1, 500) : within(1, 100)};
            case "put": return new long[] {characters()};
            case "save": case "restore": return new long[] {within(0, 1)};
            default: return new long[0];
        }
    }

    /** Signs that go on in a text of legs, with a slip now and then. */
    private static long characters() {
        if (random.nextInt(40) == 0) {
            return random.nextLong() >>> random.nextInt(64);
        }
        while (text.length() < 8) {
            text += (random.nextInt(60) == 0 ? "" : ";") + "c" + digits(359) + "v" + digits(400) + "m" + digits(600);
        }
        if (random.nextInt(6) == 0) {
            text = text.substring(1);
        }
        int count = Math.min(text.length(), 1 + random.nextInt(8));
        if (random.nextBoolean()) {
            count = Math.min(Math.max(1, text.indexOf(';', 1)), 8);
        }
        long number = packed(text.substring(0, count));
        text = text.substring(count);
        return number;
    }

    private static String digits(int most) {
        int kind = random.nextInt(40);
        return kind == 0 ? "" : kind == 1 ? "0" + random.nextInt(10) : kind == 2 ? "" + (most + 1)
            : kind < 10 ? "" + most : "" + (1 + random.nextInt(most));
    }
}
