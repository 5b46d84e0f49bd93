import java.io.IOException;
import java.nio.file.Files;
import java.nio.file.Path;
import java.util.LinkedHashMap;
import java.util.Map;

/**
 * The document ../shared/DOC.md, so that each of its sentences is named: those that tell an edge with a test of their
 * own, the others as plain words. What nobody names is told at the end; so a sentence that changes is seen.
 */
final class Doc {
    private static final Map<String, String> UNNAMED = new LinkedHashMap<>();
    private static String section = "";

    private Doc() {
    }

    static void read() throws IOException {
        String title = "";
        for (String line : Files.readAllLines(Path.of("../shared/DOC.md"))) {
            if (line.startsWith("## ")) {
                title = line.substring(3).split(":")[0].strip();
                UNNAMED.put(title, "");
            } else if (!title.isEmpty()) {
                UNNAMED.put(title, (UNNAMED.get(title) + " " + line).replaceAll("\\s+", " "));
            }
        }
    }

    /** The words that follow stand in this section of the document. */
    static void in(String title) {
        section = title;
    }

    /** These words of the document tell an edge, and this is their test. */
    static void edge(String words, Runnable test) {
        name(words);
        Check.topic(section + ", \"" + words + "\": ");
        int before = Check.compared();
        try {
            test.run();
        } catch (RuntimeException e) {
            Check.same("the test", e.toString(), "no exception");
        }
        Check.holds("something is tested", Check.compared() > before);
        Check.topic("");
    }

    /** These words of the document tell no edge, or one that is named elsewhere. */
    static void plain(String... allWords) {
        for (String words : allWords) {
            name(words);
        }
    }

    /** No word of this section tells an edge. */
    static void leave(String title) {
        Check.holds("the document has a section " + title, UNNAMED.remove(title) != null);
    }

    private static void name(String words) {
        String rest = UNNAMED.getOrDefault(section, "");
        int at = rest.indexOf(words);
        Check.holds(section + " says: " + words, at >= 0);
        if (at >= 0) {
            // What stands on either side is kept apart, so that no words are found that the document does not say.
            UNNAMED.put(section, rest.substring(0, at) + " ~ " + rest.substring(at + words.length()));
        }
    }

    static void end() {
        for (Map.Entry<String, String> one : UNNAMED.entrySet()) {
            String rest = one.getValue().replaceAll("[^A-Za-z0-9]+", " ").strip();
            Check.same("words that are not named in " + one.getKey(), rest, "");
        }
    }
}
