import java.io.IOException;
import java.nio.file.DirectoryStream;
import java.nio.file.Files;
import java.nio.file.Path;
import java.util.ArrayList;
import java.util.BitSet;
import java.util.List;
import java.util.regex.Matcher;
import java.util.regex.Pattern;

/**
 * No test: prints what is in the document and in no quotation of a test, so that a sentence without
 * a case is seen. Its arguments are the document and the directory of the tests.
 */
final class Unquoted {
    private static final String LITERAL = "\"(?:[^\"\\\\]|\\\\.)*\"";
    private static final Pattern TEXTS = Pattern.compile("(?:says\\(|SAID = \\{)\\s*((?:" + LITERAL + "[\\s+,]*)+)");
    private static final Pattern TEXT = Pattern.compile("(" + LITERAL + ")\\s*(\\+?)");

    public static void main(String[] args) throws IOException {
        String document = inOneLine(Files.readString(Path.of(args[0])));
        BitSet quoted = new BitSet();
        for (String quotation : quotations(Path.of(args[1]))) {
            int at = document.indexOf(quotation);
            if (at < 0) {
                System.out.println("NOT IN THE DOCUMENT: " + quotation);
            }
            for (; at >= 0; at = document.indexOf(quotation, at + 1)) {
                quoted.set(at, at + quotation.length());
            }
        }
        for (int from = quoted.nextClearBit(0); from < document.length();) {
            int to = quoted.nextSetBit(from);
            to = to < 0 ? document.length() : to;
            String unquoted = document.substring(from, to).strip();
            if (unquoted.length() > 1) {
                System.out.println(unquoted);
            }
            from = quoted.nextClearBit(to);
        }
    }

    private static List<String> quotations(Path directory) throws IOException {
        List<String> quotations = new ArrayList<>();
        try (DirectoryStream<Path> files = Files.newDirectoryStream(directory, "*Test.java")) {
            for (Path file : files) {
                Matcher texts = TEXTS.matcher(Files.readString(file));
                while (texts.find()) {
                    quotations.addAll(joined(texts.group(1)));
                }
            }
        }
        return quotations;
    }

    /** Texts of a source, those that a + joins as one. */
    private static List<String> joined(String source) {
        List<String> all = new ArrayList<>();
        StringBuilder text = new StringBuilder();
        Matcher parts = TEXT.matcher(source);
        while (parts.find()) {
            String literal = parts.group(1);
            text.append(literal.substring(1, literal.length() - 1).replace("\\\"", "\""));
            if (parts.group(2).isEmpty()) {
                all.add(inOneLine(text.toString()));
                text.setLength(0);
            }
        }
        return all;
    }

    private static String inOneLine(String text) {
        return text.replaceAll("\\s+", " ");
    }
}
