import java.io.IOException;
import java.io.UncheckedIOException;
import java.nio.file.Files;
import java.nio.file.Path;
import java.util.LinkedHashMap;
import java.util.Map;

/**
 * The sentences of one section of the document. A test quotes the sentence that it holds in the document's own
 * words: each quote has to stand in its section just once, and in the end each word of the document that promises
 * something has to be quoted by a test.
 *
 * A section is a paragraph of "Terms", named by its first word or words ("Street", "An hour"), or a promise,
 * named by its number ("promise 2"), or "An object" for how many calls an object is used.
 */
final class Sentences {
    private static final Path DOCUMENT = Path.of("../shared/DOC.md");

    /** Parameters of which nothing is said but what they are: whether there is such a one is said by Throws. */
    private static final String NO_MORE_THAN_A_NAME = "- `\\w+`: (a|the) (place|vendor|window|tape)";

    private static final Map<String, Sentences> SECTIONS = new LinkedHashMap<>();

    private final String name;
    private final String text;
    private final boolean[] quoted;

    private Sentences(String name, String text) {
        this.name = name;
        this.text = text;
        quoted = new boolean[text.length()];
    }

    static Sentences of(String name) {
        if (SECTIONS.isEmpty()) {
            read();
        }
        Sentences section = SECTIONS.get(name);
        if (section == null) {
            throw new IllegalArgumentException("the document has no section " + name);
        }
        return section;
    }

    /** Quotes the sentence, or the part of one, that the script holds. */
    Sentences hold(String quote, String... script) {
        int at = text.indexOf(quote);
        Script.due(name, "the document says: " + quote, "" + (at >= 0), "true");
        Script.due(name, "the document says it twice: " + quote, "" + (at != text.lastIndexOf(quote)), "false");
        for (int i = 0; at >= 0 && i < quote.length(); i++) {
            quoted[at + i] = true;
        }
        Script.run(name + ": \"" + quote + "\"", script);
        return this;
    }

    static void allAreHeld() {
        for (Sentences section : SECTIONS.values()) {
            StringBuilder rest = new StringBuilder();
            for (int i = 0; i < section.text.length(); i++) {
                rest.append(section.quoted[i] ? ' ' : section.text.charAt(i));
            }
            boolean held = !rest.toString().matches(".*[a-zA-Z0-9].*");
            Script.due(section.name, "no test quotes: " + rest.toString().replaceAll(" +", " ").trim(), "" + held, "true");
        }
    }

    private static void read() {
        String heading = "";
        Map<String, StringBuilder> texts = new LinkedHashMap<>();
        try {
            for (String line : Files.readAllLines(DOCUMENT)) {
                if (line.startsWith("#")) {
                    heading = line;
                } else if (heading.startsWith("## Promise ")) {
                    String promise = "promise " + heading.substring("## Promise ".length(), heading.indexOf(':'));
                    texts.computeIfAbsent(promise, k -> new StringBuilder()).append(ofPromise(line)).append(' ');
                } else if (heading.equals("## Terms") || line.startsWith("An object ")) {
                    addTerm(texts, line);
                }
            }
        } catch (IOException e) {
            throw new UncheckedIOException(e);
        }
        texts.forEach((name, text) -> SECTIONS.put(name, new Sentences(name, text.toString().replaceAll(" +", " ").trim())));
    }

    private static void addTerm(Map<String, StringBuilder> texts, String line) {
        if (line.isBlank() || line.startsWith("Examples:") || line.startsWith("- ")) {
            return;
        }
        String[] words = line.split(" ");
        boolean labelled = words[0].endsWith(".");
        String label = labelled ? words[0].substring(0, words[0].length() - 1) : words[0] + " " + words[1];
        texts.put(label, new StringBuilder(labelled ? line.substring(words[0].length() + 1) : line));
    }

    /** Without the heading's repeated signature, which the test of the face holds. */
    private static String ofPromise(String line) {
        if (line.matches(NO_MORE_THAN_A_NAME)) {
            return "";
        }
        return line.startsWith("`") ? line.substring(line.indexOf("`: ") + 3) : line;
    }
}
