import java.io.IOException;
import java.nio.file.Files;
import java.nio.file.Path;
import java.util.ArrayList;
import java.util.HashMap;
import java.util.List;
import java.util.Map;
import java.util.regex.Matcher;
import java.util.regex.Pattern;

/** The document's sentences that the boundary tests quote: each must stand there, and none that names a boundary may be left out. */
final class Sentences {
    private static final Path DOC = Path.of("../shared/DOC.md");
    // answers below 0, bounds, and the kinds of a FAULT
    private static final Pattern BOUNDARY = Pattern.compile(
        "NONE|(?<![\\w.])-\\d+(,\\d{3})*|\\d+ \\.\\. \\d+(,\\d{3})*|nothing happens|none come|stays|asked last|behind that|\\(last\\)");
    private static final String[] TERMS = {"I", "II", "III", "IV", "V", "VI"};

    private static final Map<String, String> TEXTS = new HashMap<>();
    private static final Map<String, boolean[]> QUOTED = new HashMap<>();
    private static final List<String> HEADINGS = new ArrayList<>();
    private static int quotes = 0;
    private static int askedBefore = 0;

    private Sentences() {
    }

    static void readDocument() throws IOException {
        String doc = Files.readString(DOC);
        for (int i = 0; i < TERMS.length; i++) {
            String end = i + 1 < TERMS.length ? "\n" + TERMS[i + 1] + ". " : "\n## Promise 1:";
            keep("Term " + TERMS[i], between(doc, "\n" + TERMS[i] + ". ", end));
        }
        for (int promise = 1; promise <= 62; promise++) {
            String end = promise < 62 ? "\n## Promise " + (promise + 1) + ":" : "\n## Not promised";
            keep("Promise " + promise, between(doc, "\n## Promise " + promise + ":", end));
        }
    }

    private static String between(String doc, String start, String end) {
        int from = doc.indexOf(start);
        int to = doc.indexOf(end, from + 1);
        Due.isTrue("the document has" + start + " ahead of" + end, from >= 0 && to > from);
        return doc.substring(from, to).replaceAll("\\s+", " ");
    }

    private static void keep(String heading, String text) {
        HEADINGS.add(heading);
        TEXTS.put(heading, text);
        QUOTED.put(heading, new boolean[text.length()]);
    }

    /** What is asked from here on is due by these words of a promise. */
    static void of(int promise, String words) {
        begin("Promise " + promise, words);
    }

    static void ofTerm(String term, String words) {
        begin("Term " + term, words);
    }

    private static void begin(String heading, String words) {
        endOfSentence();
        Due.about(heading + " '" + words + "'");
        String text = TEXTS.get(heading);
        int at = text.indexOf(words);
        Due.isTrue("stands in the document", at >= 0);
        for (int i = at; i >= 0 && i < at + words.length(); i++) {
            QUOTED.get(heading)[i] = true;
        }
        quotes++;
        askedBefore = Due.asked();
    }

    private static void endOfSentence() {
        Due.isTrue("something was asked", quotes == 0 || Due.asked() > askedBefore);
    }

    static void finish() {
        endOfSentence();
        Due.about("");
        for (String heading : HEADINGS) {
            String text = TEXTS.get(heading);
            Matcher m = BOUNDARY.matcher(text);
            while (m.find()) {
                Due.isTrue(heading + ": '" + m.group() + "' at " + m.start() + " is quoted", isQuoted(heading, m.start(), m.end()));
            }
        }
    }

    private static boolean isQuoted(String heading, int from, int to) {
        for (int i = from; i < to; i++) {
            if (!QUOTED.get(heading)[i]) {
                return false;
            }
        }
        return true;
    }
}
