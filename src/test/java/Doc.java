import java.io.IOException;
import java.nio.file.Files;
import java.nio.file.Path;
import java.util.Map;
import java.util.TreeMap;
import java.util.regex.Matcher;
import java.util.regex.Pattern;

/**
 * The words of ../shared/DOC.md, by parts: the number of a promise, "I", "II", "III" for the paragraphs ahead of the promises,
 * "0" for how long an object is used. Each test says which words it is for; words that no test is for are told at the end.
 */
final class Doc {
    private static final Map<String, String> TEXTS = new TreeMap<>();
    private static final Map<String, boolean[]> QUOTED = new TreeMap<>();
    private static String latest = "";
    private static int checksAhead = 0;
    private static int quotes = 0;

    private Doc() {
    }

    static void read() throws IOException {
        String doc = Files.readString(Path.of("../shared/DOC.md"));
        put("0", between(doc, "An object is used", "\n"));
        String terms = between(doc, "TERMS: OFFER", "Ahead of the calls");
        int second = terms.indexOf("==== II. ");
        int third = terms.indexOf("==== III. ");
        put("I", terms.substring(0, second));
        put("II", terms.substring(second + 9, third));
        put("III", terms.substring(third + 10));
        Matcher m = Pattern.compile("^## Promise (\\d+): .*\\n\\n`[^`]*`: (.*)$", Pattern.MULTILINE).matcher(doc);
        while (m.find()) {
            put(m.group(1), m.group(2));
        }
        Check.due("promises in the document", TEXTS.size(), 49 + 4);
    }

    private static String between(String doc, String from, String to) {
        int start = doc.indexOf(from);
        return doc.substring(start, doc.indexOf(to, start));
    }

    private static void put(String part, String text) {
        String plain = text.replaceAll("```(text)?", " ").replaceAll("\\s+", " ");
        TEXTS.put(part, plain);
        QUOTED.put(part, new boolean[plain.length()]);
    }

    /** All that is checked from here on is for these words of a part. */
    static void says(String part, String words) {
        closeLatest();
        latest = part + " \"" + words + "\"";
        Check.about(latest);
        int at = TEXTS.getOrDefault(part, "").indexOf(words);
        Check.due("the document has these words", at >= 0, true);
        for (int i = 0; at >= 0 && i < words.length(); i++) {
            QUOTED.get(part)[at + i] = true;
        }
        quotes++;
        checksAhead = Check.checks();
    }

    private static void closeLatest() {
        if (!latest.isEmpty()) {
            Check.due("something is checked", Check.checks() > checksAhead, true);
        }
    }

    static void finish() {
        closeLatest();
        Check.about("no test is for these words");
        for (String part : TEXTS.keySet()) {
            Check.due(part, unquoted(part), "");
        }
        System.out.println(quotes + " places of the document have a test of their own");
    }

    /** The letters and digits that no test has quoted, with what lies between them. */
    private static String unquoted(String part) {
        StringBuilder left = new StringBuilder();
        String text = TEXTS.get(part);
        for (int i = 0; i < text.length(); i++) {
            boolean counts = Character.isLetterOrDigit(text.charAt(i)) || text.charAt(i) == ' ' && left.length() > 0;
            if (counts && !QUOTED.get(part)[i]) {
                left.append(text.charAt(i));
            }
        }
        return left.toString().trim();
    }
}
