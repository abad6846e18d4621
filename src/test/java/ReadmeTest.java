import java.io.IOException;
import java.lang.reflect.Method;
import java.lang.reflect.Modifier;
import java.net.URL;
import java.net.URLClassLoader;
import java.nio.file.Files;
import java.nio.file.Path;
import java.util.ArrayList;
import java.util.LinkedHashMap;
import java.util.List;
import java.util.Map;
import java.util.regex.Matcher;
import java.util.regex.Pattern;
import javax.tools.JavaCompiler;
import javax.tools.ToolProvider;

/**
 * README.md: its example compiles as it stands there and answers what stands behind each call, and
 * its list of the calls tells each in the document's words.
 */
public final class ReadmeTest {
    private static final Path README = Path.of("README.md");
    private static final Path PROGRAM = Path.of("src", "main", "java", "TableSplice.java");
    private static final Path OUT = Path.of("build", "readme");
    private static final String EXAMPLE = "Example";

    /** A call and what stands behind it: "x.open();   // 0: so many". */
    private static final Pattern ANSWERED =
            Pattern.compile("\\s*(x\\.\\w+\\(.*\\));\\s*// (?:throws (\\w+)|([^:]+))(?:: .*)?");
    private static final Pattern ENTRY =
            Pattern.compile("- `((?:\\w+ )?(\\w+)\\([^)]*\\))`: .*", Pattern.DOTALL);
    private static final Map<String, String> CHECKS = Map.of(
            "IndexOutOfBoundsException", "throwsOut",
            "IllegalArgumentException", "throwsArgument",
            "IllegalStateException", "throwsState");

    private ReadmeTest() {
    }

    public static void main(String[] args) throws IOException, ReflectiveOperationException {
        String readme = Files.readString(README);
        String example = example(readme);
        compilesAndRunsAsShown(example);
        answersAsShown(example);
        showsEachCall(example);
        tellsEachCall(sectionOf(readme, "The calls"));
        Check.end();
    }

    private static String example(String readme) {
        String[] parts = readme.split("(?m)^```(?:java)?\\n");
        Check.due("README.md: blocks of code that are the example", parts.length, 3);
        return parts.length == 3 ? parts[1] : "";
    }

    /** With the program alone, as README.md tells it, and none of the tests' classes. */
    private static void compilesAndRunsAsShown(String example)
            throws IOException, ReflectiveOperationException {
        Path classes = OUT.resolve("shown");
        if (compiles("the example", classes, example, PROGRAM.toString())) {
            runs(classes, ClassLoader.getPlatformClassLoader());
        }
    }

    /** The same with a question to Check in the place of each call. */
    private static void answersAsShown(String example)
            throws IOException, ReflectiveOperationException {
        StringBuilder asking = new StringBuilder();
        int questions = 0;
        for (String line : example.split("\n")) {
            Matcher answered = ANSWERED.matcher(line);
            if (answered.matches()) {
                line = question(answered.group(1), answered.group(2), answered.group(3));
                questions++;
            } else {
                Check.due("README.md tells no answer: " + line, line.contains("x."), false);
            }
            asking.append(line).append('\n');
        }
        Path classes = OUT.resolve("asked");
        if (compiles("the answers", classes, asking.toString(),
                "-classpath", System.getProperty("java.class.path"))) {
            int before = Check.askedSoFar();
            runs(classes, ReadmeTest.class.getClassLoader());
            // a call that threw unasked would end the example, or be caught in it
            Check.due("README.md: answers asked", Check.askedSoFar() - before, questions);
        }
    }

    private static String question(String call, String thrown, String answer) {
        String what = "\"README.md: " + call + "\", ";
        if (thrown == null) {
            return "Check.due(" + what + call + ", " + answer + ");";
        }
        return "Check." + CHECKS.get(thrown) + "(" + what + "() -> " + call + ");";
    }

    private static boolean compiles(String what, Path classes, String source, String... more)
            throws IOException {
        Files.createDirectories(classes);
        Path file = classes.resolve(EXAMPLE + ".java");
        Files.writeString(file, source);
        List<String> arguments = new ArrayList<>(
                List.of("-Xlint:all", "-Werror", "-d", classes.toString(), file.toString()));
        arguments.addAll(List.of(more));
        JavaCompiler compiler = ToolProvider.getSystemJavaCompiler();
        int failed = compiler.run(null, null, null, arguments.toArray(new String[0]));
        Check.due("README.md: " + what + " compile", failed, 0);
        return failed == 0;
    }

    private static void runs(Path classes, ClassLoader parent)
            throws IOException, ReflectiveOperationException {
        URL[] places = {classes.toUri().toURL()};
        try (URLClassLoader loader = new URLClassLoader(places, parent)) {
            Class<?> shown = loader.loadClass(EXAMPLE);
            shown.getMethod("main", String[].class).invoke(null, (Object) new String[0]);
        }
    }

    private static void showsEachCall(String example) {
        for (Method method : TableSplice.class.getDeclaredMethods()) {
            if (Modifier.isPublic(method.getModifiers())) {
                Check.due("README.md shows " + method.getName(),
                        example.contains("x." + method.getName() + "("), true);
            }
        }
    }

    private static String sectionOf(String readme, String title) {
        for (String section : readme.split("(?m)^## ")) {
            if (section.startsWith(title + "\n")) {
                return section;
            }
        }
        Check.due("README.md has a section '" + title + "'", false, true);
        return "";
    }

    private static void tellsEachCall(String calls) throws IOException {
        String document = Files.readString(Document.FILE);
        Map<String, String> entries = new LinkedHashMap<>();
        for (String part : calls.split("(?m)^(?=- `)|^(?=#)")) {
            Matcher entry = ENTRY.matcher(part);
            if (entry.matches()) {
                entries.put(entry.group(2), part.replaceAll("\\s+", " "));
                Check.due("the document's face has " + entry.group(1),
                        document.contains("public " + entry.group(1)), true);
            }
        }
        int promises = 0;
        for (Map.Entry<String, List<String>> section : new Document().unquoted().entrySet()) {
            if (section.getKey().startsWith("Promise ")) {
                promises++;
                tellsPromise(section.getKey(), section.getValue(), entries);
            }
        }
        Check.due("README.md tells as many calls as there are promises", entries.size(), promises);
    }

    private static void tellsPromise(String title, List<String> sentences,
            Map<String, String> entries) {
        String name = title.substring(title.indexOf(": ") + 2);
        String entry = entries.getOrDefault(title.endsWith("A new object") ? "TableSplice" : name,
                "");
        for (String sentence : sentences) {
            Check.due("README.md tells of " + title + ": " + sentence, entry.contains(sentence),
                    true);
        }
    }
}
