import java.nio.charset.StandardCharsets;
import java.util.Arrays;

/** What the tests share: answers compared with those due, and texts fed to an object. */
final class Due {
    private static int wrong = 0;
    private static int asked = 0;
    private static String about = "";

    private Due() {
    }

    static void is(String call, long got, long want) {
        asked++;
        if (got != want) {
            wrong++;
            if (wrong <= 50) {
                System.out.println(about + call + " answered " + got + ", due is " + want);
            }
        }
    }

    /** What the questions from here on are about, told ahead of a wrong answer. */
    static void about(String sentence) {
        about = sentence.isEmpty() ? "" : sentence + ": ";
    }

    static int asked() {
        return asked;
    }

    static void isTrue(String what, boolean holds) {
        is(what, holds ? 1 : 0, 1);
    }

    static void finish(String name) {
        System.out.println(name + ": " + asked + " asked, " + wrong + " wrong");
        if (wrong != 0 || asked == 0) {
            System.exit(1);
        }
    }

    /** Puts a text on an empty tape. */
    static void feed(TwoCalendars x, String text) {
        byte[] bytes = text.getBytes(StandardCharsets.ISO_8859_1);
        x.end(0);
        for (int at = 0; at < bytes.length; at += 20) {
            byte[] part = Arrays.copyOf(Arrays.copyOfRange(bytes, at, Math.min(bytes.length, at + 20)), 20);
            is("feed at " + at, x.feed(four(part, 0), four(part, 4), four(part, 8), four(part, 12), four(part, 16)), at + 20);
        }
        is("end of the text", x.end(bytes.length), bytes.length);
    }

    static TwoCalendars of(String text, int lines) {
        TwoCalendars x = new TwoCalendars();
        feed(x, text);
        is("war() of " + text, x.war(), lines);
        return x;
    }

    private static int four(byte[] bytes, int at) {
        return (bytes[at] & 255) << 24 | (bytes[at + 1] & 255) << 16 | (bytes[at + 2] & 255) << 8 | bytes[at + 3] & 255;
    }
}
