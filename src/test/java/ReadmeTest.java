import java.io.IOException;
import java.lang.reflect.Method;
import java.lang.reflect.Modifier;
import java.nio.file.Files;
import java.nio.file.Path;
import java.util.regex.Matcher;
import java.util.regex.Pattern;

/** The examples of README.md: each line is called, and what its comment begins with must be what the call answers. */
public final class ReadmeTest {
    private static final Path FILE = Path.of("README.md");
    private static final Pattern BLOCK = Pattern.compile("```java\n(.*?)```", Pattern.DOTALL);
    private static final Pattern CALL = Pattern.compile("device\\.(\\w+\\([^)]*\\));(?: *// (.*))?");
    private static final Pattern TEXT = Pattern.compile("for \\(char c : \"(\\w*)\"\\.toCharArray\\(\\)\\) device\\.append\\(c\\);");

    private ReadmeTest() {
    }

    public static void main(String[] args) throws IOException {
        String readme = Files.readString(FILE);
        Matcher blocks = BLOCK.matcher(readme);
        int count = 0;
        while (blocks.find()) {
            count++;
            Check.about("README.md, example " + count);
            example(blocks.group(1).split("\n"));
        }
        Check.due("examples", count, 4);
        Check.about("README.md");
        for (Method method : IdleDiscards.class.getDeclaredMethods()) {
            if (Modifier.isPublic(method.getModifiers())) {
                String name = "`" + method.getName() + "`";
                Check.same(name + " is named", Boolean.toString(readme.contains(name)), "true");
            }
        }
        Check.end();
    }

    private static void example(String[] lines) {
        Check.same("the first line", lines[0], "IdleDiscards device = new IdleDiscards();");
        Run run = new Run("");
        for (int i = 1; i < lines.length; i++) {
            Matcher call = CALL.matcher(lines[i]);
            Matcher text = TEXT.matcher(lines[i]);
            if (text.matches()) {
                run.text(text.group(1));
            } else if (call.matches()) {
                // A long is told without its letter.
                run.then(call.group(1).replaceAll("(\\d)L\\b", "$1") + due(call.group(2)));
            } else {
                Check.same("a line that is no call", lines[i], "");
            }
        }
    }

    /** What a comment says of the answer, as Run reads it. */
    private static String due(String comment) {
        if (comment == null) {
            return "";
        }
        switch (comment) {
            case "throws IndexOutOfBoundsException": return " ! index";
            case "throws IllegalArgumentException": return " ! argument";
            case "throws IllegalStateException": return " ! state";
            default: return " = " + comment.replaceFirst(":.*", "");
        }
    }
}
