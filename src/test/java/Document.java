import java.io.IOException;
import java.nio.file.Files;
import java.nio.file.Path;
import java.util.ArrayList;
import java.util.LinkedHashMap;
import java.util.List;
import java.util.Map;

/**
 * The sentences of ../shared/DOC.md by its sections, and which of them the tests have quoted: a
 * quote that the document does not say is wrong, and so is a sentence that no test quotes.
 */
final class Document {
    static final Path FILE = Path.of("..", "shared", "DOC.md");
    private static final String NOT_PROMISED = "Not promised";

    /** The sentences of each section that no test has quoted yet. */
    private final Map<String, List<String>> left = new LinkedHashMap<>();

    Document() throws IOException {
        boolean code = false;
        List<String> section = new ArrayList<>();
        for (String line : Files.readAllLines(FILE)) {
            if (line.startsWith("```")) {
                code = !code;
            } else if (line.startsWith("## ")) {
                section = new ArrayList<>();
                left.put(line.substring(3), section);
            } else if (!code && !line.isBlank() && !line.startsWith("#")) {
                section.addAll(sentencesOf(line));
            }
        }
        Check.due("the document promises", left.size() > 20, true);
        left.remove(NOT_PROMISED);
    }

    private static List<String> sentencesOf(String line) {
        if (line.startsWith("- ")) {
            return List.of(line.substring(2));
        }
        // ahead of what a call does stands its signature, which FaceTest looks at
        String text = line.replaceFirst("^`[^`]*\\([^`]*`: ", "");
        return List.of(text.split("(?<=\\.) (?=[A-Z])"));
    }

    Section section(String title) {
        Check.due("the document has a section '" + title + "'", left.containsKey(title), true);
        return new Section(title);
    }

    /** The sentences by the titles of their sections; all of them, before a test quotes any. */
    Map<String, List<String>> unquoted() {
        return left;
    }

    void dueAllQuoted() {
        left.forEach((title, sentences) -> {
            for (String sentence : sentences) {
                Check.due(title + ": no test quotes: " + sentence, false, true);
            }
        });
    }

    final class Section {
        private final String title;

        private Section(String title) {
            this.title = title;
        }

        Sentence says(String text) {
            List<String> sentences = left.getOrDefault(title, new ArrayList<>());
            Check.due(title + " says once: " + text, sentences.remove(text), true);
            return new Sentence(title + ": " + text);
        }
    }

    /** What a sentence asks, as runs that each begin with a new object. */
    static final class Sentence {
        final String text;

        private Sentence(String text) {
            this.text = text;
        }

        Sentence run(String... rows) {
            Run.made(text, rows);
            return this;
        }

        /** The same rows in each of the states. */
        Sentence runInEach(String[] states, String... rows) {
            for (String state : states) {
                Run.made(text, state, String.join(";", rows));
            }
            return this;
        }
    }
}
