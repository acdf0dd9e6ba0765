import java.nio.charset.StandardCharsets;
import java.util.Arrays;
import java.util.function.IntToLongFunction;

/** What the project's tests share: a count of wrong answers, and feeding a text to the TAPE. */
final class Checks {
    private static final int TOLD_AT_MOST = 40;
    private static int asked = 0;
    private static int wrong = 0;
    private static String sentence = "";

    private Checks() {
    }

    /** The document's sentence that the answers looked at from here on belong to. */
    static void sentence(String words) {
        sentence = "[" + words + "] ";
    }

    static void due(String call, long got, long want) {
        asked++;
        if (got != want) {
            wrong++;
            if (wrong <= TOLD_AT_MOST) {
                System.out.println(sentence + call + " answered " + got + ", due is " + want);
            }
        }
    }

    /** A number from least to most is taken at both edges, one beside them or far outside is not. */
    static void range(String number, IntToLongFunction call, int least, int most, long taken, long not) {
        for (int n : new int[] {least, (least + most) / 2, most}) {
            due(number + " " + n, call.applyAsLong(n), taken);
        }
        for (int n : new int[] {least - 1, most + 1, Integer.MIN_VALUE, Integer.MAX_VALUE}) {
            due(number + " " + n, call.applyAsLong(n), not);
        }
    }

    static void holds(String what, boolean isSo) {
        asked++;
        if (!isSo) {
            wrong++;
            System.out.println(sentence + "does not hold: " + what);
        }
    }

    static boolean anyWrong() {
        return wrong != 0;
    }

    static void finish() {
        System.out.println(asked + " answers looked at, " + wrong + " not as due");
        if (wrong != 0) {
            System.exit(1);
        }
    }

    /** The bytes of a text, filled up with blanks to whole feeds of twenty. */
    static int[] words(String text) {
        byte[] bytes = text.getBytes(StandardCharsets.ISO_8859_1);
        int feeds = (bytes.length + 19) / 20;
        byte[] full = Arrays.copyOf(bytes, feeds * 20);
        Arrays.fill(full, bytes.length, full.length, (byte) 32);
        int[] words = new int[feeds * 5];
        for (int i = 0; i < full.length; i++) {
            words[i / 4] = (words[i / 4] << 8) | (full[i] & 255);
        }
        return words;
    }

    /** Feeds a text to an empty TAPE and cuts it to the text's length. */
    static void write(PepperYears x, String text) {
        int[] w = words(text);
        for (int i = 0; i < w.length; i += 5) {
            due("feed", x.feed(w[i], w[i + 1], w[i + 2], w[i + 3], w[i + 4]), 20 + i * 4);
        }
        due("end", x.end(text.length()), text.length());
    }

    /** tithes() of a text that is right: how many. */
    static void good(PepperYears x, String text, int count) {
        write(x, text);
        due("tithes() of \"" + text + "\"", x.tithes(), count);
        due("fault() of \"" + text + "\"", x.fault(), PepperYears.NONE);
        due("status() of \"" + text + "\"", x.status(), 0);
        due("count(3) of \"" + text + "\"", x.count(3), count);
        due("count(6) of \"" + text + "\"", x.count(6), 0);
    }

    /** tithes() of a text that is wrong: where its FAULT is. */
    static void bad(PepperYears x, String text, int place) {
        int before = x.count(3);
        write(x, text);
        due("tithes() of \"" + text + "\"", x.tithes(), -6);
        due("fault() of \"" + text + "\"", x.fault(), place);
        due("status() of \"" + text + "\"", x.status(), -6);
        due("count(3) of \"" + text + "\"", x.count(3), before);
        due("count(6) of \"" + text + "\"", x.count(6), 0);
    }
}
