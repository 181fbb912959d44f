import java.io.IOException;
import java.nio.file.Files;
import java.nio.file.Path;
import java.util.ArrayList;
import java.util.LinkedHashMap;
import java.util.List;
import java.util.Map;
import java.util.regex.Matcher;
import java.util.regex.Pattern;

/** The document's sentences: each is told ahead of the answers that hold it, so that none is left without any. */
final class Doc {
    static final Path FILE = Path.of(System.getProperty("maprun.doc", "../shared/DOC.md"));
    private static final Map<String, List<String>> SAID = new LinkedHashMap<>();
    private static String open = null;
    private static int askedThen = 0;

    private Doc() { }

    /** The answers that follow are asked because of these words of a part ("Terms 4", "Promise 12"). */
    static void says(String part, String words) {
        close();
        SAID.computeIfAbsent(part, p -> new ArrayList<>()).add(words);
        open = part + ", \"" + words + "\": ";
        askedThen = Check.asked();
        Check.about(open);
    }

    private static void close() {
        if (open != null) {
            Check.yes("some answer is asked for", Check.asked() > askedThen);
        }
        open = null;
        Check.about("");
    }

    /** Every word of the terms and promises has been told by some test, and no test tells others. */
    static void allIsSaid() throws IOException {
        close();
        if (!Files.isReadable(FILE)) {
            System.out.println(FILE + " is not here: the tests' sentences are not held against it");
            return;
        }
        Map<String, String> parts = parts(Files.readString(FILE));
        for (String part : SAID.keySet()) {
            Check.yes("the document has a part " + part, parts.containsKey(part));
        }
        parts.forEach((part, text) -> hold(part, text, SAID.getOrDefault(part, List.of())));
    }

    private static void hold(String part, String text, List<String> said) {
        boolean[] held = new boolean[text.length()];
        for (String words : said) {
            int at = freshPlace(text, words, held);
            Check.yes(part + " says: " + words, at >= 0);
            for (int i = Math.max(at, 0); i < at + words.length(); i++) {
                held[i] = true;
            }
        }
        StringBuilder left = new StringBuilder();
        for (int i = 0; i < held.length; i++) {
            left.append(held[i] ? '\n' : text.charAt(i));
        }
        for (String words : left.toString().split("\n+")) {
            Check.no(part + " is left without a test: " + words.strip(), words.matches(".*[A-Za-z0-9].*"));
        }
    }

    /** Where the words stand and were not told yet; if they were everywhere, the first place. */
    private static int freshPlace(String text, String words, boolean[] held) {
        for (int at = text.indexOf(words); at >= 0; at = text.indexOf(words, at + 1)) {
            if (!held[at]) {
                return at;
            }
        }
        return text.indexOf(words);
    }

    private static Map<String, String> parts(String doc) {
        Map<String, String> parts = new LinkedHashMap<>();
        String terms = between(doc, "## Terms", "## Promise 1:");
        String[] numbered = terms.split("==== \\d\\. ");
        for (int i = 0; i < numbered.length; i++) {
            parts.put("Terms " + (i + 1), numbered[i].split("The constants:")[0]);
        }
        parts.put("Constants", between(terms, "The constants:", null));
        Matcher m = Pattern.compile("Promise (\\d+): \\w[\\w ]* `[^`]*`: (.*?) ##").matcher(plain(doc));
        while (m.find()) {
            parts.put("Promise " + m.group(1), m.group(2));
        }
        return parts;
    }

    private static String between(String text, String from, String to) {
        int start = text.indexOf(from) + from.length();
        return plain(text.substring(start, to == null ? text.length() : text.indexOf(to)));
    }

    /** Without the frames of the code parts, all on one line. */
    private static String plain(String text) {
        return text.replaceAll("```\\w*", " ").replaceAll("\\s+", " ").strip();
    }
}
