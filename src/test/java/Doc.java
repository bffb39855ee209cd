import java.io.IOException;
import java.nio.file.Files;
import java.nio.file.Path;
import java.util.LinkedHashMap;
import java.util.Map;

/**
 * The sentences of ../shared/DOC.md, in its sections "Terms" and "Promise 1" to "Promise 28". Tests quote them: a quoted
 * sentence must stand in its section, it must have answers that are tested, and in the end all must have been quoted.
 * A line break in the document counts as a blank.
 */
final class Doc {
    private static final Path FILE = Path.of("../shared/DOC.md");

    /** For each section what has not been quoted yet. */
    private final Map<String, String> left = new LinkedHashMap<>();
    private String section = "";
    private String sentence = "";
    private int askedBefore = 0;

    Doc() throws IOException {
        String name = "";
        for (String line : Files.readAllLines(FILE)) {
            if (line.startsWith("## ")) {
                String title = line.substring(3);
                name = title.equals("Terms") || title.startsWith("Promise ") ? title : "";
            } else if (!name.isEmpty() && line.matches("[A-Z][A-Z ]+")) {
                name = line;
            } else if (!name.isEmpty()) {
                left.merge(name, plain(line), (all, more) -> (all + " " + more).trim());
            }
        }
    }

    /** Without the head of a method, which FaceTest looks at. */
    private static String plain(String line) {
        return line.trim().replaceFirst("^`[^`]*\\)[^`]*`: ", "");
    }

    void section(String name) {
        closeSentence();
        section = name;
        Check.about("DOC.md, " + name);
        Check.same("there is such a section", Boolean.toString(left.containsKey(name)), "true");
    }

    /** The answers that are tested from here on are what this sentence asks for. */
    void says(String quoted) {
        closeSentence();
        sentence = quoted;
        Check.about("DOC.md, " + section + ": " + quoted);
        String text = left.getOrDefault(section, "");
        int at = text.indexOf(quoted);
        Check.same("the sentence stands there", Boolean.toString(at >= 0), "true");
        if (at >= 0) {
            left.put(section, text.substring(0, at) + "\u00a7" + text.substring(at + quoted.length()));
        }
        askedBefore = Check.countAsked();
    }

    private void closeSentence() {
        if (!sentence.isEmpty()) {
            Check.same("it is tested", Boolean.toString(Check.countAsked() > askedBefore), "true");
        }
        sentence = "";
    }

    /** To be called behind all tests: nothing may be left that no test has quoted. */
    void end() {
        closeSentence();
        left.forEach((name, rest) -> {
            Check.about("DOC.md, " + name);
            Check.same("what no test quotes", rest.replaceAll("[\u00a7\\s]+", " ").trim(), "");
        });
    }
}
