import java.util.ArrayList;
import java.util.List;
import java.util.Map;

/**
 * A line of a run of calls:
 * <pre>
 *   pass 60                  a call on the way; its answer must not be an error
 *   pass 60 = 2              a call and the answer that is due
 *   compass 0 ~ 99510        the same, and the call changes nothing
 *   pass 601 ! BAD_VALUE     the same, for a call that is refused
 *   8 x leg 0 0 1            the same call several times
 *   put "c1v2m3"             the characters of put
 *   write "c1v2m3;c4v5m6"    as many calls of put as a text needs
 *   # why                    left alone
 * </pre>
 */
record Step(String name, long[] arguments, char mark, long due) {
    static final char ON_THE_WAY = '-', DUE = '=', NO_CHANGE = '~', REFUSED = '!';

    private static final long GONE = 1000000000L;
    private static final String AMOUNTS = " start compass turn check wave restAt ";
    private static final Map<String, Long> ERRORS = Map.of("NO_SUCH", -1L, "BAD_VALUE", -2L, "BAD_TEXT", -3L,
        "TOO_MANY", -4L, "NOT_POSSIBLE", -5L, "NONE", -6L);
    private static final Map<String, Long> NAMES = Map.of("GAIN", 0L, "RATE", 1L, "LATE", 2L, "SWING", 3L,
        "AGREE", 4L, "TOLERANCE", 5L, "NOISE", 6L, "SEED", 7L, "WAIT", 8L);
    private static final Map<String, Long> WILD = Map.of("MIN", (long) Integer.MIN_VALUE, "MAX",
        (long) Integer.MAX_VALUE);

    /** The steps that lines tell. */
    static List<Step> read(String... runs) {
        List<Step> steps = new ArrayList<>();
        for (String run : runs) {
            for (String line : run.split("\n")) {
                if (!line.isBlank() && !line.strip().startsWith("#")) {
                    readLine(line.strip(), steps);
                }
            }
        }
        return steps;
    }

    private static void readLine(String line, List<Step> steps) {
        String[] words = line.split(" +");
        int first = 0;
        int times = 1;
        if (words.length > 2 && words[1].equals("x")) {
            times = Integer.parseInt(words[0]);
            first = 2;
        }
        int last = words.length;
        char mark = ON_THE_WAY;
        long due = 0;
        if (last - first > 2 && "=~!".contains(words[last - 2])) {
            mark = words[last - 2].charAt(0);
            due = number(words[last - 1]);
            last -= 2;
        }
        if (words[first].equals("write")) {
            write(words[first + 1], steps);
            return;
        }
        long[] arguments = new long[last - first - 1];
        for (int i = 0; i < arguments.length; i++) {
            arguments[i] = number(words[first + 1 + i]);
        }
        for (int i = 0; i < times; i++) {
            steps.add(new Step(words[first], arguments, mark, due));
        }
    }

    private static void write(String quoted, List<Step> steps) {
        String text = quoted.substring(1, quoted.length() - 1);
        for (int from = 0; from < text.length(); from += 8) {
            String part = text.substring(from, Math.min(from + 8, text.length()));
            steps.add(new Step("put", new long[] {packed(part)}, ON_THE_WAY, 0));
        }
    }

    private static long packed(String text) {
        if (text.length() > 8) {
            throw new IllegalArgumentException(text);
        }
        long number = 0;
        for (int i = 0; i < text.length(); i++) {
            number = number << 8 | text.charAt(i);
        }
        return number;
    }

    private static long number(String word) {
        if (word.startsWith("\"")) {
            return packed(word.substring(1, word.length() - 1));
        }
        if (word.startsWith("0x")) {
            return Long.parseUnsignedLong(word.substring(2), 16);
        }
        if (word.endsWith("-GONE")) {
            return ERRORS.get(word.substring(0, word.length() - 5)) - GONE;
        }
        Long named = ERRORS.getOrDefault(word, NAMES.getOrDefault(word, WILD.get(word)));
        return named != null ? named : Long.parseLong(word);
    }

    /** Whether an answer of this call is an error. */
    boolean isError(long answer) {
        long code = AMOUNTS.contains(" " + name + " ") ? answer + GONE : answer;
        return code <= -1 && code >= -5;
    }

    /** Whether an answer is the one that is due. */
    boolean isMet(long answer) {
        return mark == ON_THE_WAY ? !isError(answer) : answer == due;
    }

    String told() {
        StringBuilder told = new StringBuilder(name);
        for (long argument : arguments) {
            told.append(' ').append(argument);
        }
        return told.toString();
    }
}
