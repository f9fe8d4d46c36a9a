import java.nio.charset.StandardCharsets;
import java.util.function.IntUnaryOperator;

/** Makes the calls of a test short: texts instead of bytes, and answers laid beside those that are due. */
final class Probe {
    private static int wrong = 0;
    private static int asked = 0;

    final GradualCheck x = new GradualCheck();

    static void due(String what, long got, long want) {
        asked++;
        if (got != want) {
            wrong++;
            System.out.println(what + " answered " + got + ", due is " + want);
        }
    }

    static void due(String what, String got, String want) {
        asked++;
        if (!got.equals(want)) {
            wrong++;
            System.out.println(what + " answered \"" + got + "\", due is \"" + want + "\"");
        }
    }

    static void due(String what, boolean got) {
        due(what, got ? 1 : 0, 1);
    }

    static void end() {
        System.out.println(wrong + " of " + asked + " answers are not as due");
        if (wrong != 0 || asked == 0) {
            System.exit(1);
        }
    }

    /** How many bytes the tape has behind it; the last feed is filled with zeros. */
    int feed(byte[] bytes) {
        int last = 0;
        for (int i = 0; i < bytes.length; i += 20) {
            int[] fives = new int[5];
            for (int k = 0; k < 20; k++) {
                int b = i + k < bytes.length ? bytes[i + k] & 255 : 0;
                fives[k / 4] = fives[k / 4] << 8 | b;
            }
            last = x.feed(fives[0], fives[1], fives[2], fives[3], fives[4]);
        }
        return last;
    }

    int feed(String text) {
        return feed(text.getBytes(StandardCharsets.ISO_8859_1));
    }

    int say(String term) {
        feed(term);
        return x.program(term.length());
    }

    int lay(String type) {
        feed(type);
        return x.type(type.length());
    }

    static String spell(IntUnaryOperator text) {
        int length = text.applyAsInt(-1);
        if (length < 0) {
            return "answer " + length;
        }
        StringBuilder letters = new StringBuilder();
        for (int k = 0; k < length; k++) {
            letters.append((char) text.applyAsInt(k));
        }
        return letters.toString();
    }

    /** A whole text; it takes a call for each byte. */
    String text(int what, int i) {
        return spell(k -> x.text(what, i, k));
    }

    /** Kind, number and side of a run. */
    String run(int mode) {
        return x.run(mode, 0) + " " + x.run(mode, 1) + " " + x.run(mode, 2);
    }
}
