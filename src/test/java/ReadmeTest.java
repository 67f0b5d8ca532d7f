import java.io.IOException;
import java.io.UncheckedIOException;
import java.lang.reflect.Method;
import java.lang.reflect.Modifier;
import java.net.URL;
import java.net.URLClassLoader;
import java.nio.file.Files;
import java.nio.file.Path;
import java.util.ArrayList;
import java.util.Comparator;
import java.util.List;
import java.util.TreeSet;
import java.util.regex.Matcher;
import java.util.regex.Pattern;
import java.util.stream.Stream;
import javax.tools.ToolProvider;

/** What README.md shows: its Java compiles, and each call answers what stands behind it. */
public final class ReadmeTest {
    private static final Path PAGE = Path.of("README.md"), TESTS = Path.of("src/test/java");
    private static final Pattern CALL = Pattern.compile("^(\\w+\\.(\\w+)\\(.*\\)); +// (-?\\d+|[A-Z]+)\\b.*$");
    private static final String PROGRAM = "ReadmeCalls";

    private static final Due due = new Due("readme");
    private static final List<String> calls = new ArrayList<>();
    private static final TreeSet<String> shown = new TreeSet<>();

    public static void main(String[] args) throws Exception {
        String page = Files.readString(PAGE);
        String program = programOf(page);
        everyCallIsShown();
        everyTestIsTold(page);
        Path folder = Files.createTempDirectory("readme");
        try {
            answersAreAsShown(folder, program);
        } finally {
            remove(folder);
        }
        due.end();
    }

    /** All Java of the page as one method, which answers for each call what is due and what came. */
    private static String programOf(String page) {
        StringBuilder program = new StringBuilder("public final class " + PROGRAM + " {\n"
                + "public static java.util.List<long[]> answers() {\n"
                + "java.util.List<long[]> answers = new java.util.ArrayList<>();\n");
        boolean isJava = false;
        for (String line : page.split("\n")) {
            if (line.startsWith("```")) {
                isJava = line.equals("```java");
            } else if (isJava) {
                program.append(statementOf(line)).append('\n');
            }
        }
        return program.append("return answers;\n}\n}\n").toString();
    }

    private static String statementOf(String line) {
        Matcher matcher = CALL.matcher(line);
        if (!matcher.matches()) {
            due.isTrue("no answer is shown that is not asked: " + line, !line.contains("//"));
            return line;
        }
        calls.add(matcher.group(1));
        shown.add(matcher.group(2));
        String want = matcher.group(3);
        String number = Character.isLetter(want.charAt(0)) ? "BeatenInstead." + want : want + "L";
        return "answers.add(new long[] {" + number + ", " + matcher.group(1) + "});";
    }

    private static void everyCallIsShown() {
        for (Method method : BeatenInstead.class.getDeclaredMethods()) {
            if (Modifier.isPublic(method.getModifiers())) {
                due.isTrue(method.getName() + " is shown", shown.contains(method.getName()));
            }
        }
    }

    private static void everyTestIsTold(String page) throws IOException {
        try (Stream<Path> files = Files.list(TESTS)) {
            files.map(file -> file.getFileName().toString()).filter(name -> name.endsWith("Test.java"))
                    .map(name -> name.replace(".java", ""))
                    .forEach(name -> due.isTrue(name + " is told", page.contains(name)));
        }
    }

    private static void answersAreAsShown(Path folder, String program) throws Exception {
        Path file = folder.resolve(PROGRAM + ".java");
        Files.writeString(file, program);
        int failed = ToolProvider.getSystemJavaCompiler().run(null, null, null,
                "-cp", System.getProperty("java.class.path"), "-d", folder.toString(), file.toString());
        due.is("compiling the page's Java", 0, failed);
        if (failed != 0) {
            return;
        }
        try (URLClassLoader loader = new URLClassLoader(new URL[] {folder.toUri().toURL()})) {
            List<?> answers = (List<?>) loader.loadClass(PROGRAM).getMethod("answers").invoke(null);
            due.is("calls with answers", calls.size(), answers.size());
            for (int i = 0; i < answers.size(); i++) {
                long[] answer = (long[]) answers.get(i);
                due.is(calls.get(i), answer[0], answer[1]);
            }
        }
    }

    private static void remove(Path folder) throws IOException {
        try (Stream<Path> files = Files.walk(folder)) {
            files.sorted(Comparator.reverseOrder()).forEach(ReadmeTest::removeOne);
        }
    }

    private static void removeOne(Path file) {
        try {
            Files.delete(file);
        } catch (IOException e) {
            throw new UncheckedIOException(e);
        }
    }
}
