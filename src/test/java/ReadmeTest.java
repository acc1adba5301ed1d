import java.io.IOException;
import java.nio.file.Files;
import java.nio.file.Path;
import java.util.regex.Matcher;
import java.util.regex.Pattern;

/** The calls that README.md shows answer what it says; it runs where README.md is. */
public final class ReadmeTest {
    private static final Due T = new Due();
    private static final String NEW = "GyroTrainer x = new GyroTrainer();";
    private static final Pattern CALL = Pattern.compile("x\\.(\\w+)\\((.*)\\);\\s+// (-?\\d+)(:.*)?");

    public static void main(String[] args) throws IOException {
        String[] parts = Files.readString(Path.of("README.md")).split("```");
        int runs = 0;
        for (int i = 1; i < parts.length; i += 2) {
            if (parts[i].startsWith("java\n")) {
                run(parts[i].substring("java\n".length()));
                runs++;
            }
        }
        T.due("runs that are shown", Math.max(runs, 8), runs);
        T.end();
    }

    private static void run(String lines) {
        Calls x = null;
        for (String line : lines.strip().split("\n")) {
            Matcher call = CALL.matcher(line);
            if (line.equals(NEW)) {
                x = new Calls();
            } else if (x != null && call.matches()) {
                T.due(line, x.answer(call.group(1), arguments(call.group(2))), Long.parseLong(call.group(3)));
            } else {
                T.due("it can be read: " + line, 0, 1);
            }
        }
    }

    private static long[] arguments(String told) {
        if (told.isEmpty()) {
            return new long[0];
        }
        String[] words = told.split(", ");
        long[] arguments = new long[words.length];
        for (int i = 0; i < words.length; i++) {
            String word = words[i].replace("GyroTrainer.", "").replaceAll("L$", "");
            arguments[i] = Step.read("set " + word).get(0).arguments()[0];
        }
        return arguments;
    }
}
