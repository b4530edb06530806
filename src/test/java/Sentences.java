import java.io.IOException;
import java.nio.file.Files;
import java.nio.file.Path;
import java.util.LinkedHashMap;
import java.util.Map;

/**
 * The document's sections, and which of their words a test has said: a test that is given a section must say all of it,
 * word for word, so that no sentence is left without a test. Without the document nothing is compared.
 */
final class Sentences {
    private static final Path DOCUMENT = Path.of("..", "shared", "DOC.md");

    private final Check check;
    private final Map<String, String> sections = new LinkedHashMap<>();
    private final Map<String, boolean[]> said = new LinkedHashMap<>();

    Sentences(Check check, String... names) {
        this.check = check;
        if (!Files.exists(DOCUMENT)) {
            return;
        }
        for (String name : names) {
            String text = section(read(DOCUMENT), name);
            sections.put(name, text);
            said.put(name, new boolean[text.length()]);
        }
    }

    private static String read(Path path) {
        try {
            return Files.readString(path);
        } catch (IOException e) {
            throw new IllegalStateException(e);
        }
    }

    /** What it is, Terms I to IV, the constants, or a promise by its number; without its heading and its signature. */
    private static String section(String document, String name) {
        switch (name) {
            case "What it is":
                return between(document, "\n## What it is\n", "\n## ");
            case "I":
                return between(document, "\nI. ", "\nII. ");
            case "II":
                return between(document, "\nII. ", "\nIII. ");
            case "III":
                return between(document, "\nIII. ", "\nIV. ");
            case "IV":
                return between(document, "\nIV. ", "\nThe constants: ");
            case "The constants":
                return between(document, "\nThe constants: ", "\nAhead of the calls ");
            default:
                String promise = between(document, "\n## Promise " + name + ": ", "\n## ");
                return promise.substring(promise.indexOf(")", promise.indexOf("(")) + 1);
        }
    }

    private static String between(String document, String head, String tail) {
        int from = document.indexOf(head);
        if (from < 0) {
            throw new IllegalStateException("the document has no " + head.trim());
        }
        int to = document.indexOf(tail, from + head.length());
        return plain(document.substring(from + head.length(), to));
    }

    private static String plain(String text) {
        return text.replace("```text", " ").replace("`", "").replaceAll("\\s+", " ");
    }

    /** What is asked from here on is asked because of these words of a section. */
    void says(String section, String words) {
        check.about("\"" + words + "\": ");
        if (sections.isEmpty()) {
            return;
        }
        int at = sections.get(section).indexOf(words);
        check.same("stands in " + section, at >= 0, true);
        for (int i = at; at >= 0 && i < at + words.length(); i++) {
            said.get(section)[i] = true;
        }
    }

    /** Prints what no test has said. */
    void end() {
        for (Map.Entry<String, String> section : sections.entrySet()) {
            StringBuilder left = new StringBuilder();
            for (int i = 0; i < section.getValue().length(); i++) {
                left.append(said.get(section.getKey())[i] ? ' ' : section.getValue().charAt(i));
            }
            String words = left.toString().replaceAll("[\\s;:.,]+", " ").trim();
            check.about("");
            check.same("of " + section.getKey() + " no test says: " + words, words.isEmpty(), true);
        }
    }
}
