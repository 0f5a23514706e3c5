import java.io.IOException;
import java.nio.file.Files;
import java.nio.file.Path;
import java.util.BitSet;
import java.util.List;
import java.util.regex.Matcher;
import java.util.regex.Pattern;
import java.util.stream.Collectors;
import java.util.stream.Stream;

/** That every word of the document's promises and Terms stands in a sentence by which some test asks (Check.by). */
public final class SentencesTest {
    private static final Path TESTS = Path.of("src/test/java");
    private static final int PROMISES = 40;
    private static final Pattern QUOTE = Pattern.compile("\"((?:[^\"\\\\]|\\\\.)*)\"");
    private static final Pattern BY = Pattern.compile("\\bby\\((Check\\.TERMS|\\d+),\\s*((?:\"(?:[^\"\\\\]|\\\\.)*\"\\s*\\+?\\s*)+)\\)");
    /** Headings, and sentences that promise nothing by themselves. */
    private static final List<String> HEADINGS = List.of("```text", "```", "==== II.", "==== III.", "==== IV.");

    public static void main(String[] args) throws IOException {
        String all = sources();
        for (int promise = Check.TERMS; promise <= PROMISES; promise++) {
            covered(promise, all);
        }
        Check.end();
    }

    private static String sources() throws IOException {
        try (Stream<Path> files = Files.list(TESTS)) {
            return files.filter(f -> f.getFileName().toString().endsWith("Test.java")).sorted().map(SentencesTest::text).collect(Collectors.joining("\n"));
        }
    }

    private static String text(Path file) {
        try {
            return Files.readString(file);
        } catch (IOException e) {
            throw new IllegalStateException("no test at " + file, e);
        }
    }

    private static void covered(int promise, String sources) {
        String section = Check.section(promise);
        int from = promise == Check.TERMS ? 0 : section.indexOf("`: ") + 3;
        BitSet quoted = new BitSet();
        HEADINGS.forEach(h -> mark(section, h, quoted));
        Matcher m = BY.matcher(sources);
        while (m.find()) {
            int of = m.group(1).equals("Check.TERMS") ? Check.TERMS : Integer.parseInt(m.group(1));
            if (of == promise) {
                mark(section, joined(m.group(2)), quoted);
            }
        }
        Check.due("the section of promise " + promise + " is there", section.length() > 10 && from >= 0, true);
        StringBuilder left = new StringBuilder();
        for (int i = from; i < section.length(); i++) {
            boolean word = Character.isLetterOrDigit(section.charAt(i));
            left.append(quoted.get(i) ? "" : word ? section.charAt(i) : ' ');
        }
        String words = left.toString().trim().replaceAll("\\s+", " ");
        Check.due("words of promise " + promise + " by which no test asks: " + words, words.length(), 0);
    }

    private static String joined(String quotes) {
        StringBuilder s = new StringBuilder();
        Matcher m = QUOTE.matcher(quotes);
        while (m.find()) {
            s.append(m.group(1).replace("\\\"", "\""));
        }
        return s.toString();
    }

    private static void mark(String section, String words, BitSet quoted) {
        for (int at = section.indexOf(words); at >= 0; at = section.indexOf(words, at + 1)) {
            quoted.set(at, at + words.length());
        }
    }
}
