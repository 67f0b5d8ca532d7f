import java.io.IOException;
import java.nio.file.Files;
import java.nio.file.Path;
import java.util.LinkedHashMap;
import java.util.Map;
import java.util.function.LongSupplier;
import java.util.regex.Matcher;
import java.util.regex.Pattern;

/**
 * Answers due by the document, sentence by sentence. Each sentence must stand there word for word, and
 * of each something is asked; at the end no word of the terms and promises may be left unasked.
 */
final class Sentences {
    private static final Path DOCUMENT = Path.of("../shared/DOC.md");
    private static final Pattern HEADING = Pattern.compile("^(?:======== (\\d) |## (.*?)(?::.*)?$)");
    private static final String TO_BE_ASKED = "Terms \\d|Promise \\d+";

    private final Due due = new Due("sentences");
    private final Map<String, String> parts = new LinkedHashMap<>();
    private final Map<String, StringBuilder> unasked = new LinkedHashMap<>();
    private String sentence = "";
    private boolean isAsked = true;

    /** Reads the parts of the document, each in one line, by heading: "Terms 1", "Promise 2" .. */
    Sentences() throws IOException {
        String heading = "";
        for (String line : Files.readAllLines(DOCUMENT)) {
            Matcher matcher = HEADING.matcher(line);
            if (matcher.find()) {
                heading = matcher.group(1) != null ? "Terms " + matcher.group(1) : matcher.group(2);
            }
            if (!line.startsWith("Ahead of the calls")) {
                String text = line.replaceAll("^(## .*|======== \\d |`[^`]*\\)`: |```.*)", "").trim();
                parts.merge(heading, text, (all, more) -> (all + " " + more).trim());
            }
        }
        parts.forEach((name, text) -> unasked.put(name, new StringBuilder(text)));
    }

    /** What is asked from here on is asked of that sentence. */
    void of(String part, String words) {
        due.isTrue("something is asked of " + sentence, isAsked);
        isAsked = false;
        sentence = part + ", \"" + words + "\"";
        int place = parts.getOrDefault(part, "").indexOf(words);
        due.isTrue("the document says " + sentence, place >= 0);
        for (int i = 0; place >= 0 && i < words.length(); i++) {
            unasked.get(part).setCharAt(place + i, ' ');
        }
    }

    void is(String call, long want, long got) {
        isAsked = true;
        due.is(sentence + ": " + call, want, got);
    }

    void isTrue(String what, boolean holds) {
        is(what, 1, holds ? 1 : 0);
    }

    /** Of a call that is refused: what it answers, and that it changes nothing that can be seen. */
    void refused(String call, long want, BeatenInstead x, LongSupplier asking) {
        long before = x.digest();
        is(call, want, asking.getAsLong());
        is("digest() behind the refused " + call, before, x.digest());
    }

    /** Numbers off those of least to most: the next ones, and the last ones that there are. */
    static int[] off(int least, int most) {
        return new int[] {least - 1, most + 1, Integer.MIN_VALUE, Integer.MAX_VALUE};
    }

    void end() {
        due.isTrue("something is asked of " + sentence, isAsked);
        for (String part : unasked.keySet()) {
            String left = unasked.get(part).toString().replaceAll("[ .,:;()]+", " ").trim();
            due.isTrue(part + ": nothing is asked of \"" + left + "\"", !part.matches(TO_BE_ASKED) || left.isEmpty());
        }
        due.end();
    }
}
