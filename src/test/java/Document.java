import java.io.IOException;
import java.io.UncheckedIOException;
import java.nio.file.Files;
import java.nio.file.Path;
import java.util.BitSet;
import java.util.Map;
import java.util.TreeMap;
import java.util.regex.Matcher;
import java.util.regex.Pattern;

/**
 * The document's words, part by part: each test names the sentence that it holds, and at the end no sentence of a part
 * may be left that no test has named.
 */
final class Document {
    static final String TERMS = "terms";
    static final String TEXT = "the text";

    private static final Path FILE = Path.of("../shared/DOC.md");
    private static final Map<String, String> PARTS = read();
    private static final Map<String, BitSet> NAMED = new TreeMap<>();

    private Document() {
    }

    private static Map<String, String> read() {
        String document;
        try {
            document = Files.readString(FILE);
        } catch (IOException unreadable) {
            throw new UncheckedIOException(unreadable);
        }
        Map<String, String> parts = new TreeMap<>();
        Matcher promises = Pattern.compile("(?s)## Promise (\\d+): \\w[^\n]*\n+`[^`]*`: (.*?)(?=\n## )").matcher(document);
        while (promises.find()) {
            parts.put(promises.group(1), plain(promises.group(2)));
        }
        int from = document.indexOf("## Terms");
        int text = document.indexOf("THE TEXT of a ROAD, from", from);
        int behindText = document.indexOf("```", text);
        int to = document.indexOf("Ahead of the calls", from);
        parts.put(TERMS, plain(document.substring(from + "## Terms".length(), text) + document.substring(behindText + "```".length(), to)));
        parts.put(TEXT, plain(document.substring(text, behindText)));
        return parts;
    }

    private static String plain(String text) {
        return text.replaceAll("(?m)^```.*$", "").replaceAll("(?m)^\\d\\. ", "").replaceAll("\\s+", " ").trim();
    }

    static void promise(int number, String sentence) {
        sentence(String.valueOf(number), sentence);
    }

    static void sentence(String part, String sentence) {
        Check.about("'" + sentence + "' (" + part + ")");
        String words = PARTS.getOrDefault(part, "");
        BitSet named = NAMED.computeIfAbsent(part, p -> new BitSet());
        int place = words.indexOf(sentence);
        while (place >= 0 && named.get(place)) {
            place = words.indexOf(sentence, place + 1);
        }
        Check.holds("the document says so, and no test has named it before", place >= 0);
        if (place >= 0) {
            named.set(place, place + sentence.length());
        }
    }

    static void allPromisesAreNamed(int first, int last) {
        for (int number = first; number <= last; number++) {
            isNamed(String.valueOf(number));
        }
    }

    static void isNamed(String part) {
        Check.about("the document (" + part + ")");
        String words = PARTS.getOrDefault(part, "");
        BitSet named = NAMED.getOrDefault(part, new BitSet());
        StringBuilder left = new StringBuilder();
        for (int i = 0; i < words.length(); i++) {
            if (!named.get(i)) {
                left.append(words.charAt(i));
            }
        }
        Check.holds("there are words", !words.isEmpty());
        Check.holds("no test names '" + left.toString().trim() + "'", left.toString().isBlank());
    }
}
