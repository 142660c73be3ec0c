import java.io.IOException;
import java.nio.charset.StandardCharsets;
import java.nio.file.Files;
import java.nio.file.Path;
import java.util.BitSet;
import java.util.LinkedHashMap;
import java.util.Map;
import java.util.regex.Matcher;
import java.util.regex.Pattern;

/** The document's terms and promises, and which of their words a test holds. */
final class Doc {
    /** Stands for words that a test leaves out between two parts of a sentence. */
    private static final String GAP = " ... ";
    private static final Pattern TERM = Pattern.compile("======== (\\d) (.*)");
    private static final Pattern PROMISE = Pattern.compile("## (Promise \\d+): .*");

    private final Map<String, String> texts = new LinkedHashMap<>();
    private final Map<String, BitSet> held = new LinkedHashMap<>();

    Doc(Path file) throws IOException {
        Map<String, StringBuilder> parts = new LinkedHashMap<>();
        String section = "";
        for (String line : Files.readAllLines(file, StandardCharsets.UTF_8)) {
            String text = line.strip();
            Matcher term = TERM.matcher(text);
            Matcher promise = PROMISE.matcher(text);
            if (promise.matches()) {
                section = promise.group(1);
                text = "";
            } else if (term.matches()) {
                section = "Terms " + term.group(1);
                text = term.group(2);
            } else if (text.startsWith("Refused, ")) {
                section = "Terms, refusals";
            } else if (text.startsWith("## ") || text.startsWith("Ahead of the calls")) {
                section = "";
            }
            if (!section.isEmpty() && !text.startsWith("```")) {
                parts.computeIfAbsent(section, s -> new StringBuilder()).append(' ').append(text);
            }
        }
        parts.forEach((name, text) -> keep(name, text.toString()));
    }

    private void keep(String name, String text) {
        String withoutHead = text.strip().replaceFirst("^`[^`]*`: ", "");
        texts.put(name, withoutHead.replaceAll("\\s+", " "));
        held.put(name, new BitSet());
    }

    int sections() {
        return texts.size();
    }

    /**
     * Marks a sentence as held; false, if the document does not say it there. What stands there
     * more than once is held once more by each test that names it.
     */
    boolean hold(String section, String sentence) {
        String text = texts.get(section);
        if (text == null) return false;
        BitSet marks = held.get(section);
        Matcher match = pattern(sentence).matcher(text);
        boolean found = false;
        for (int from = 0; match.find(from); from = match.start() + 1) {
            found = true;
            if (mark(marks, match)) return true;
        }
        return found;
    }

    private static Pattern pattern(String sentence) {
        StringBuilder parts = new StringBuilder();
        for (String part : sentence.split(Pattern.quote(GAP))) {
            parts.append(parts.length() == 0 ? "(" : ".*?(").append(Pattern.quote(part)).append(')');
        }
        return Pattern.compile(parts.toString());
    }

    /** Whether any of it was not held yet. */
    private static boolean mark(BitSet marks, Matcher match) {
        int before = marks.cardinality();
        for (int i = 1; i <= match.groupCount(); i++) marks.set(match.start(i), match.end(i));
        return marks.cardinality() > before;
    }

    /** All words that no test holds, by section; empty, if there is none. */
    String unheld() {
        StringBuilder all = new StringBuilder();
        for (String section : texts.keySet()) {
            Matcher word = Pattern.compile("[A-Za-z0-9]+").matcher(texts.get(section));
            StringBuilder words = new StringBuilder();
            while (word.find()) {
                if (!held.get(section).get(word.start())) words.append(' ').append(word.group());
            }
            if (words.length() > 0) all.append(section).append(':').append(words).append('\n');
        }
        return all.toString();
    }
}
