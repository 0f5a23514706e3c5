import java.io.IOException;
import java.nio.charset.StandardCharsets;
import java.nio.file.Files;
import java.nio.file.Path;
import java.util.Arrays;

/** What the tests have in common: a count of wrong answers, and how a text is fed and read. */
final class Check {
    static final int NONE = HairRope.NONE;
    static final int LEAST = Integer.MIN_VALUE;
    static final int GREATEST = Integer.MAX_VALUE;
    /** For by(): the words stand in the document's Terms. */
    static final int TERMS = 0;

    private static final Path DOC = Path.of("../shared/DOC.md");
    private static final int SHOWN = 40;
    private static String doc = null;
    private static String sentence = "";
    private static int asked = 0;
    private static int wrong = 0;

    private Check() { }

    /**
     * The sentence of the document that the answers from here on are due by: of a promise, or of the TERMS.
     * It must stand there word for word.
     */
    static void by(int promise, String words) {
        sentence = (promise == TERMS ? "Terms" : "promise " + promise) + ", \"" + words + "\": ";
        due("a sentence that stands in the document", section(promise).contains(words), true);
    }

    /** A promise's text, or the Terms with all parts, blanks made one. */
    static String section(int promise) {
        String all = doc();
        String head = promise == TERMS ? "## Terms" : "## Promise " + promise + ":";
        int from = all.indexOf(head);
        int to = all.indexOf("## ", from + head.length());
        return from < 0 ? "" : all.substring(from + head.length(), to < 0 ? all.length() : to);
    }

    private static String doc() {
        if (doc == null) {
            try {
                doc = Files.readString(DOC, StandardCharsets.UTF_8).replaceAll("\\s+", " ");
            } catch (IOException e) {
                throw new IllegalStateException("no document at " + DOC, e);
            }
        }
        return doc;
    }

    static void due(String call, long got, long want) {
        asked++;
        if (got != want) {
            wrong++;
            if (wrong <= SHOWN) {
                System.out.println(sentence + call + " answered " + got + ", due is " + want);
            }
        }
    }

    static void due(String call, boolean got, boolean want) {
        due(call, got ? 1 : 0, want ? 1 : 0);
    }

    static int wrong() {
        return wrong;
    }

    /** Ends the test: exit code 1 if anything was wrong. */
    static void end() {
        System.out.println(asked + " answers, " + wrong + " not as due");
        if (wrong != 0 || asked == 0) {
            System.exit(1);
        }
    }

    /** Numbers that are not in least .. greatest: the nearest ones, and the ends of all ints. */
    static int[] outside(int least, int greatest) {
        return new int[] {least - 1, greatest + 1, LEAST, GREATEST, LEAST + 1, GREATEST - 1};
    }

    /** The bytes of a text, filled up with blanks to whole feeds. */
    static byte[] filledUp(String text) {
        byte[] bytes = text.getBytes(StandardCharsets.ISO_8859_1);
        byte[] full = Arrays.copyOf(bytes, (bytes.length + 19) / 20 * 20);
        Arrays.fill(full, bytes.length, full.length, (byte) ' ');
        return full;
    }

    static int four(byte[] bytes, int at) {
        int four = 0;
        for (int i = 0; i < 4; i++) {
            four = four << 8 | bytes[at + i] & 255;
        }
        return four;
    }

    static void feed(HairRope rope, String text) {
        byte[] full = filledUp(text);
        for (int i = 0; i < full.length; i += 20) {
            rope.feed(four(full, i), four(full, i + 4), four(full, i + 8), four(full, i + 12), four(full, i + 16));
        }
        rope.back(full.length - text.length());
    }

    static int read(HairRope rope, String text) {
        feed(rope, text);
        return rope.read();
    }

    /** A new one that has read a text without FAULT, and in which some have given, one behind the other. */
    static HairRope ropeOf(String text, int... spliced) {
        HairRope rope = new HairRope();
        due("read() of " + text, read(rope, text), 0);
        for (int house : spliced) {
            rope.splice(house);
        }
        return rope;
    }

    /** A text's FAULT and its place. */
    static void fault(String text, int number, int place) {
        HairRope rope = new HairRope();
        due("read() of " + text, read(rope, text), number);
        due("place() of " + text, rope.place(), place);
    }

    /** A text without FAULT. */
    static void good(String text) {
        fault(text, 0, NONE);
    }
}
