import java.io.IOException;
import java.lang.reflect.Method;
import java.lang.reflect.Modifier;
import java.net.URL;
import java.net.URLClassLoader;
import java.nio.file.DirectoryStream;
import java.nio.file.Files;
import java.nio.file.Path;
import java.util.List;
import java.util.regex.Matcher;
import java.util.regex.Pattern;
import javax.tools.ToolProvider;

/** README.md tells the truth: its examples answer what is written behind them; it names all calls and all tests. */
public final class SighTreatiesReadme {
    private static final Path README = Path.of("README.md");
    private static final Path TESTS = Path.of("src/test/java");
    private static final Path FOLDER = Path.of("build/readme");
    private static final String EXAMPLES = "ReadmeExamples";

    /** A call, with or without a variable for its answer, and the answer or the exception behind it. */
    private static final Pattern TOLD =
        Pattern.compile("(?:int (\\w+) = )?(treaty\\.\\w+\\(.*\\));\\s+// (-?\\d+|true|false|throws (\\w+))\\b.*");

    /** A call without an answer; what stands behind it is said to people alone. */
    private static final Pattern UNTOLD = Pattern.compile("treaty\\.(keep|goBack|undo)\\(.*\\);\\s+// .*");

    /** Stands ahead of the examples in the class that is made of them. */
    private static final String HEAD = """
        public final class ReadmeExamples {
            private interface Call { void make(); }
            private static int wrong;
            private static void due(String call, Object got, Object want) {
                if (!got.equals(want)) {
                    wrong++;
                    System.out.println("README.md: " + call + " answered " + got + ", told is " + want);
                }
            }
            private static void refused(String call, String want, Call made) {
                String got = "nothing";
                try { made.make(); } catch (RuntimeException e) { got = e.getClass().getSimpleName(); }
                due(call, got, want);
            }
            public static int wrongOnes() {
                example();
                return wrong;
            }
            private static void example() {
        """;

    private static int wrong;
    private static int answers;

    private SighTreatiesReadme() {
    }

    private static void fault(String text) {
        wrong++;
        System.out.println(text);
    }

    /** Each example stands in a block of its own, so that each has its own treaty. */
    private static String sourceOf(List<String> lines) {
        StringBuilder source = new StringBuilder(HEAD);
        boolean isCode = false;
        for (String line : lines) {
            if (line.equals("```java")) {
                isCode = true;
                source.append("{\n");
            } else if (isCode && line.equals("```")) {
                isCode = false;
                source.append("}\n");
            } else if (isCode) {
                source.append(statementOf(line)).append('\n');
            }
        }
        return source.append("}}\n").toString();
    }

    private static String statementOf(String line) {
        Matcher told = TOLD.matcher(line);
        if (!told.matches()) {
            if (line.contains("//") && !UNTOLD.matcher(line).matches()) {
                fault("README.md has no answer that can be tested: " + line);
            }
            return line;
        }
        answers++;
        String call = told.group(2);
        if (told.group(4) != null) {
            return "refused(\"" + call + "\", \"" + told.group(4) + "\", () -> " + call + ");";
        }
        if (told.group(1) == null) {
            return "due(\"" + call + "\", " + call + ", " + told.group(3) + ");";
        }
        String name = told.group(1);
        return "int " + name + " = " + call + "; due(\"" + call + "\", " + name + ", " + told.group(3) + ");";
    }

    private static void testExamples(List<String> lines) throws IOException, ReflectiveOperationException {
        Files.createDirectories(FOLDER);
        Path file = FOLDER.resolve(EXAMPLES + ".java");
        Files.writeString(file, sourceOf(lines));
        int failed = ToolProvider.getSystemJavaCompiler().run(null, null, null, "-cp",
            System.getProperty("java.class.path"), "-d", FOLDER.toString(), file.toString());
        if (failed != 0) {
            fault("the examples of README.md do not compile");
            return;
        }
        try (URLClassLoader loader = new URLClassLoader(new URL[] {FOLDER.toUri().toURL()})) {
            wrong += (int) loader.loadClass(EXAMPLES).getMethod("wrongOnes").invoke(null);
        }
        if (answers == 0) {
            fault("README.md has no examples");
        }
    }

    private static void testNames(String text) throws IOException {
        for (Method method : SighTreaties.class.getDeclaredMethods()) {
            if (Modifier.isPublic(method.getModifiers()) && !text.contains("`" + method.getName() + "`")) {
                fault("README.md does not name " + method.getName());
            }
        }
        try (DirectoryStream<Path> tests = Files.newDirectoryStream(TESTS, "*.java")) {
            for (Path test : tests) {
                String name = test.getFileName().toString().replace(".java", "");
                if (!text.contains("`" + name + "`")) {
                    fault("README.md does not name " + name);
                }
            }
        }
    }

    public static void main(String[] args) throws IOException, ReflectiveOperationException {
        List<String> lines = Files.readAllLines(README);
        testExamples(lines);
        testNames(String.join("\n", lines));
        System.out.println(wrong == 0 ? answers + " answers of README.md hold" : wrong + " faults");
        if (wrong != 0) {
            System.exit(1);
        }
    }
}
