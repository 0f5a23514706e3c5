import java.nio.charset.StandardCharsets;

/** What the tests have in common: a count of wrong answers, and how a text is fed and read. */
final class Check {
    private static int asked = 0;
    private static int wrong = 0;

    private Check() { }

    static void due(String call, long got, long want) {
        asked++;
        if (got != want) {
            wrong++;
            if (wrong <= 40) {
                System.out.println(call + " answered " + got + ", due is " + want);
            }
        }
    }

    static void due(String call, boolean got, boolean want) {
        due(call, got ? 1 : 0, want ? 1 : 0);
    }

    static int wrong() {
        return wrong;
    }

    /** Ends the test: exit code 1 if anything was wrong. */
    static void end() {
        System.out.println(asked + " answers, " + wrong + " not as due");
        if (wrong != 0 || asked == 0) {
            System.exit(1);
        }
    }

    /** The bytes of a text, filled up with blanks to whole feeds. */
    static byte[] filledUp(String text) {
        byte[] bytes = text.getBytes(StandardCharsets.ISO_8859_1);
        byte[] full = java.util.Arrays.copyOf(bytes, (bytes.length + 19) / 20 * 20);
        java.util.Arrays.fill(full, bytes.length, full.length, (byte) ' ');
        return full;
    }

    static int four(byte[] bytes, int at) {
        int four = 0;
        for (int i = 0; i < 4; i++) {
            four = four << 8 | bytes[at + i] & 255;
        }
        return four;
    }

    static void feed(HairRope rope, String text) {
        byte[] full = filledUp(text);
        for (int i = 0; i < full.length; i += 20) {
            rope.feed(four(full, i), four(full, i + 4), four(full, i + 8), four(full, i + 12), four(full, i + 16));
        }
        rope.back(full.length - text.length());
    }

    static int read(HairRope rope, String text) {
        feed(rope, text);
        return rope.read();
    }

    /** A new one that has read a text without FAULT, and in which some have given, one behind the other. */
    static HairRope ropeOf(String text, int... spliced) {
        HairRope rope = new HairRope();
        due("read() of " + text, read(rope, text), 0);
        for (int house : spliced) {
            rope.splice(house);
        }
        return rope;
    }

    /** A text's FAULT and its place. */
    static void fault(String text, int number, int place) {
        HairRope rope = new HairRope();
        due("read() of " + text, read(rope, text), number);
        due("place() of " + text, rope.place(), place);
    }
}
