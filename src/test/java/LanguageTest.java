import java.io.IOException;
import java.nio.file.Files;
import java.nio.file.Path;
import java.util.regex.Matcher;
import java.util.regex.Pattern;

/** What LANGUAGE.md rules out and a text search can find does not stand in the class. */
public final class LanguageTest {
    private static final Path SOURCE = Path.of("src/main/java/BeatenInstead.java");
    private static final int LONGEST_METHOD = 60, MOST_CLASSES = 12;

    private static final String[] RULED_OUT = {
        "->", "::", "@\\w+", "\\bimport\\b", "\\bpackage\\b", "\\bthrows?\\b", "\\btry\\b", "\\bcatch\\b",
        "\\bfinally\\b", "\\bassert\\b", "\\bsynchronized\\b", "\\bnative\\b", "\\bvar\\b", "Exact\\(",
        "\\bSystem\\.(?!arraycopy)", "\\bThread\\b", "\\bRandom\\b", "\\bStringBuffer\\b",
        "\\b(Integer|Long)\\.[A-Z]", "\\b(equals|hashCode|toString)\\(", "\\bstatic\\s*\\{",
        "while\\s*\\(true\\)", "for\\s*\\(;;\\)"};

    private static final Due due = new Due("language");

    public static void main(String[] args) throws IOException {
        String source = Files.readString(SOURCE);
        String code = source.replaceAll("(?s)/\\*.*?\\*/", "").replaceAll("//[^\n]*", "");
        for (String ruledOut : RULED_OUT) {
            Matcher matcher = Pattern.compile(ruledOut).matcher(code);
            due.isTrue("without " + ruledOut, !matcher.find());
        }
        due.isTrue("at most " + MOST_CLASSES + " classes", count(code, "\\bclass \\w+") <= MOST_CLASSES);
        methodsAreShort(source.split("\n"));
        due.end();
    }

    private static int count(String in, String pattern) {
        Matcher matcher = Pattern.compile(pattern).matcher(in);
        int count = 0;
        while (matcher.find()) {
            count++;
        }
        return count;
    }

    /** A method ends at the brace that stands as far in as its own line. */
    private static void methodsAreShort(String[] lines) {
        for (int first = 0; first < lines.length; first++) {
            Matcher matcher = Pattern.compile("^( +)[\\w\\[\\] ]+\\(.*\\) \\{$").matcher(lines[first]);
            boolean isMethod = matcher.matches() && !lines[first].matches(" +(if|for|switch|while|else|do)\\b.*");
            int last = first;
            while (isMethod && last < lines.length - 1 && !lines[last].equals(matcher.group(1) + "}")) {
                last++;
            }
            due.isTrue("short: " + lines[first].trim(), last - first < LONGEST_METHOD);
        }
    }
}
