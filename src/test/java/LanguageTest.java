import java.io.IOException;
import java.nio.file.Files;
import java.nio.file.Path;
import java.util.List;
import java.util.regex.Matcher;
import java.util.regex.Pattern;

/**
 * The rules of ../shared/LANGUAGE.md that can be read off the program's text; it is run in the project's folder.
 * It asks for more than they do where the program has no use for what they allow (try, null, extends, doubles).
 */
public final class LanguageTest {
    private static final Path FILE = Path.of("src/main/java/IdleDiscards.java");

    public static void main(String[] args) throws IOException {
        String text = Files.readString(FILE);
        String code = withoutTextsAndComments(text);
        lacks(code, "package\\s", "->", "::", "\\bfinally\\b", "\\bsynchronized\\b", "\\bassert\\b", "\\bextends\\b",
                "\\btry\\b", "\\bcatch\\b", "\\bdouble\\b", "\\bfloat\\b", "\\bObject\\b", "\\bMath\\.\\w*Exact",
                "\\bfloorMod\\b", "\\bThread\\b", "\\bRandom\\b", "\\bnanoTime\\b", "\\bcurrentTimeMillis\\b", "@",
                "\\bnull\\b", "\\.equals\\(", "\\bhashCode\\b", "\\btoString\\b", "\"\\s*\\+", "\\+\\s*\"");
        onlyThese(code, "import\\s+([\\w.]+);", List.of("java.util.Arrays"));
        onlyThese(code, "throw new (\\w+)\\(\"\"\\);",
                List.of("IllegalArgumentException", "IllegalStateException", "IndexOutOfBoundsException"));
        Check.due("each throw is one of a new exception with a written text",
                count(code, "\\bthrow\\b"), count(code, "throw new \\w+\\(\"\"\\);"));
        onlyThese(code, "\\b(?:Arrays|System|Math)\\.(\\w+)", List.of("fill", "arraycopy", "min", "max", "Arrays"));
        for (int i = 0; i < text.length(); i++) {
            if (text.charAt(i) > 127) {
                Check.due("the sign at " + i, text.charAt(i), 0);
            }
        }
        methodsAreShort(text);
        objectsAreMadeInConstructors(code);
        Check.end();
    }

    private static String withoutTextsAndComments(String text) {
        return text.replaceAll("(?s)/\\*.*?\\*/", " ").replaceAll("//[^\n]*", " ").replaceAll("\"[^\"\n]*\"", "\"\"");
    }

    private static void lacks(String code, String... patterns) {
        for (String pattern : patterns) {
            Check.due("places of " + pattern, count(code, pattern), 0);
        }
    }

    private static int count(String code, String pattern) {
        Matcher m = Pattern.compile(pattern).matcher(code);
        int n = 0;
        while (m.find()) {
            n++;
        }
        return n;
    }

    private static void onlyThese(String code, String pattern, List<String> allowed) {
        Matcher m = Pattern.compile(pattern).matcher(code);
        while (m.find()) {
            Check.due(m.group() + " is allowed", allowed.contains(m.group(1)) ? 1 : 0, 1);
        }
    }

    /** A method begins with a line that ends in a brace, at the depth of members, and ends with a lone brace there. */
    private static void methodsAreShort(String text) {
        String[] lines = text.split("\n");
        for (String indent : new String[] {"    ", "        "}) {
            int begin = -1;
            for (int i = 0; i < lines.length; i++) {
                if (lines[i].matches(indent + "\\S.*\\) ?(throws .*)?\\{")) {
                    begin = i;
                }
                if (lines[i].equals(indent + "}") && begin >= 0) {
                    Check.due("more than 60 lines from line " + (begin + 1), i - begin > 60 ? 1 : 0, 0);
                    begin = -1;
                }
            }
        }
    }

    /** So that all calls of a run together make no more objects than the room of rule 12 has, however many they are. */
    private static void objectsAreMadeInConstructors(String code) {
        String member = "";
        for (String line : code.split("\n")) {
            if (line.matches("    (    )?(public|private|static|int|long|boolean|char|void|[A-Z]\\w*\\().*")) {
                member = line.trim();
            }
            if (line.matches(".*\\bnew\\b.*") && !line.contains("throw new")) {
                boolean fine = member.matches("(public )?[A-Z]\\w*\\(\\) \\{|private final .*");
                Check.same("what is made in " + member, fine ? "" : line.trim(), "");
            }
        }
    }
}
