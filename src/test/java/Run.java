import java.lang.reflect.InvocationTargetException;
import java.lang.reflect.Method;
import java.lang.reflect.Modifier;
import java.util.ArrayList;
import java.util.HashMap;
import java.util.List;
import java.util.Map;
import java.util.function.IntPredicate;
import java.util.regex.Matcher;
import java.util.regex.Pattern;

/**
 * A run of calls on a new object, told by a text: calls are parted by line ends or semicolons. A call is told as
 *   write(0, 9) = 0               its answer must be 0
 *   write(256, 9) ! index         it must throw an IndexOutOfBoundsException, and nothing may be different behind it;
 *                                 so also argument and state
 *   write(0, 9)                   it must not throw
 *   3 * run(1) = 0                three such calls
 *   text D w00009                 clearText(), and append() for each character but the blanks
 *   ranges: 4+3@0 9+1@2           all ranges: the first block, the length, the time
 *   alive: 0-8 12                 all such blocks; so also held, queued, lost, pins (the pinned blocks)
 * No object is used for more calls than the document promises something about: what takes many calls is asked on
 * other objects that have had the same calls.
 */
final class Run {
    private static final int MOST_CALLS = 512;
    private static final Map<String, Method> METHODS = methods();
    private static final Pattern CALL = Pattern.compile("(?:(\\d+) \\* )?(\\w+)\\(([^)]*)\\)(?: = (\\S+)| ! (index|argument|state))?");
    private static final Map<String, String> EXCEPTIONS = Map.of("index", "IndexOutOfBoundsException",
            "argument", "IllegalArgumentException", "state", "IllegalStateException");
    private static final Pattern SPANS = Pattern.compile("(ranges|alive|held|queued|lost|pins):(.*)");

    private record Call(Method method, Object[] arguments) {
        String on(IdleDiscards x) {
            try {
                return String.valueOf(method.invoke(x, arguments));
            } catch (InvocationTargetException e) {
                return "throws." + e.getCause().getClass().getSimpleName();
            } catch (IllegalAccessException e) {
                return "is not public";
            }
        }
    }

    private final List<Call> calls = new ArrayList<>();
    private final IdleDiscards object = new IdleDiscards();

    Run(String text) {
        then(text);
    }

    /** More calls on the same object. */
    Run then(String text) {
        for (String part : text.split("[;\n]")) {
            String told = part.trim();
            Matcher spans = SPANS.matcher(told);
            if (told.startsWith("text ") || told.equals("text")) {
                text(told.substring(4).replace(" ", ""));
            } else if (spans.matches()) {
                Check.same("call " + calls.size() + ", " + spans.group(1), spans(spans.group(1)), spans.group(2).trim());
            } else if (!told.isEmpty()) {
                doCalls(told);
            }
        }
        return this;
    }

    /** Puts a text in place of the one that there is. */
    Run text(String text) {
        doCall(call("clearText", ""), "clearText()", null);
        for (char c : text.toCharArray()) {
            doCall(call("append", "" + (int) c), "append(" + (int) c + ")", null);
        }
        return this;
    }

    /** What a further call answers. */
    int answer(String told) {
        Matcher m = parsed(told);
        return Integer.parseInt(doCall(call(m.group(2), m.group(3)), told, null));
    }

    private static Matcher parsed(String told) {
        Matcher m = CALL.matcher(told);
        if (!m.matches()) {
            throw new IllegalArgumentException("no call: " + told);
        }
        return m;
    }

    private void doCalls(String told) {
        Matcher m = parsed(told);
        Call call = call(m.group(2), m.group(3));
        int times = m.group(1) == null ? 1 : Integer.parseInt(m.group(1));
        for (int i = 0; i < times; i++) {
            if (m.group(5) == null) {
                doCall(call, told, m.group(4));
            } else {
                refuse(call, told, "throws." + EXCEPTIONS.get(m.group(5)));
            }
        }
    }

    private void refuse(Call call, String told, String want) {
        String before = everything();
        doCall(call, told, want);
        Check.same("what there is behind call " + calls.size() + ", " + told, everything(), before);
    }

    private static Map<String, Method> methods() {
        Map<String, Method> all = new HashMap<>();
        for (Method method : IdleDiscards.class.getDeclaredMethods()) {
            if (Modifier.isPublic(method.getModifiers())) {
                all.put(method.getName(), method);
            }
        }
        return all;
    }

    private static Call call(String name, String told) {
        Method method = METHODS.get(name);
        String[] words = told.isEmpty() ? new String[0] : told.split(", ");
        if (method == null || method.getParameterCount() != words.length) {
            throw new IllegalArgumentException("no method: " + name + "(" + told + ")");
        }
        Object[] arguments = new Object[words.length];
        for (int i = 0; i < words.length; i++) {
            if (method.getParameterTypes()[i] == long.class) {
                arguments[i] = Long.valueOf(words[i]);
            } else {
                arguments[i] = Integer.valueOf(words[i]);
            }
        }
        return new Call(method, arguments);
    }

    /** Without an answer that is wanted it must be one: the call must not throw. */
    private String doCall(Call call, String told, String want) {
        calls.add(call);
        if (calls.size() > MOST_CALLS) {
            throw new IllegalStateException("too many calls on one object");
        }
        String got = call.on(object);
        String name = "call " + calls.size() + ", " + told;
        if (want != null) {
            Check.same(name, got, want);
        } else if (got.startsWith("throws.")) {
            Check.same(name, got, "a number");
        }
        return got;
    }

    // ---- what there is, asked on other objects

    private String spans(String what) {
        switch (what) {
            case "ranges": return ranges();
            case "alive": return blocks(0, v -> v == 1);
            case "held": return blocks(1, v -> v == 1);
            case "queued": return blocks(2, v -> v != -1);
            case "pins": return blocks(3, v -> v == 1);
            default: return lost();
        }
    }

    /** An object that has had the same calls, and these. */
    private IdleDiscards again(List<Call> more, StringBuilder answers) {
        IdleDiscards x = new IdleDiscards();
        for (Call call : calls) {
            call.on(x);
        }
        for (Call call : more) {
            answers.append(call.on(x)).append(' ');
        }
        return x;
    }

    private List<String> ask(List<Call> more, List<Call> questions) {
        List<String> answers = new ArrayList<>();
        int atOnce = MOST_CALLS - calls.size() - more.size();
        if (atOnce < 40) {
            throw new IllegalStateException("too many calls to ask for what there is");
        }
        StringBuilder first = new StringBuilder();
        for (int from = 0; from < questions.size(); from += atOnce) {
            IdleDiscards x = again(more, first);
            for (Call question : questions.subList(from, Math.min(from + atOnce, questions.size()))) {
                answers.add(question.on(x));
            }
        }
        answers.add(first.toString());
        return answers;
    }

    private static List<Call> blockQuestions(int what) {
        List<Call> all = new ArrayList<>();
        for (int b = 0; b < 256; b++) {
            all.add(call("block", b + ", " + what));
        }
        return all;
    }

    private static List<Call> shortQuestions() {
        List<Call> all = new ArrayList<>();
        for (int what = 0; what <= 10; what++) {
            all.add(call("about", "" + what));
        }
        for (int k = 0; k <= 16; k++) {
            for (int what = 0; what <= 5; what++) {
                all.add(call("range", k + ", " + what));
            }
        }
        for (int what = 0; what <= 5; what++) {
            all.add(call("setting", "" + what));
            all.add(call("pinned", what / 2 + ", " + what % 2));
        }
        return all;
    }

    private static final List<Call> SHORT = shortQuestions();
    private static final List<List<Call>> BLOCKS =
            List.of(blockQuestions(0), blockQuestions(1), blockQuestions(2), blockQuestions(3));

    private String ranges() {
        StringBuilder all = new StringBuilder();
        IdleDiscards x = again(List.of(), all);
        int count = x.about(2);
        for (int k = 0; k < count; k++) {
            all.append(k == 0 ? "" : " ").append(x.range(k, 0)).append('+').append(x.range(k, 1));
            all.append('@').append(x.range(k, 2));
        }
        return all.toString();
    }

    private boolean[] blocksThat(int what, IntPredicate fine) {
        List<String> answers = ask(List.of(), BLOCKS.get(what));
        boolean[] all = new boolean[256];
        for (int b = 0; b < 256; b++) {
            all[b] = fine.test(Integer.parseInt(answers.get(b)));
        }
        return all;
    }

    private String blocks(int what, IntPredicate fine) {
        return told(blocksThat(what, fine));
    }

    private String lost() {
        boolean[] lost = blocksThat(1, v -> v == 1);
        boolean[] alive = blocksThat(0, v -> v == 1);
        boolean[] queued = blocksThat(2, v -> v != -1);
        for (int b = 0; b < 256; b++) {
            lost[b] &= !alive[b] && !queued[b];
        }
        return told(lost);
    }

    private static String told(boolean[] blocks) {
        StringBuilder all = new StringBuilder();
        for (int b = 0; b < 256; b++) {
            if (blocks[b] && (b == 0 || !blocks[b - 1])) {
                int last = b;
                while (last < 255 && blocks[last + 1]) {
                    last++;
                }
                all.append(all.length() == 0 ? "" : " ").append(b).append(last == b ? "" : "-" + last);
            }
        }
        return all.toString();
    }

    /** What the blocks are, whether pinned or not. */
    String stateOfBlocks() {
        return ask(List.of(), BLOCKS.get(0)) + "\n" + ask(List.of(), BLOCKS.get(1)) + "\n" + ask(List.of(), BLOCKS.get(2));
    }

    /** The state, but for the remembered ones. */
    String state() {
        return ask(List.of(), SHORT) + "\n" + stateOfBlocks() + "\n" + ask(List.of(), BLOCKS.get(3));
    }

    /** The state, the remembered ones, the save slots and the text. */
    String everything() {
        StringBuilder all = new StringBuilder(state());
        List<Call> undone = new ArrayList<>();
        for (int i = 0; i < 15; i++) {
            undone.add(call("undo", ""));
            all.append("\n undone: ").append(ask(undone, SHORT));
        }
        for (int slot = 0; slot <= 1; slot++) {
            all.append("\n restored: ").append(ask(List.of(call("restore", "" + slot), call("undo", "")), SHORT));
        }
        all.append("\n text: ").append(ask(List.of(call("errorPosition", ""), call("clearText", "")), List.of(SHORT.get(0))));
        all.append("\n loaded: ").append(ask(List.of(call("load", "")), SHORT));
        return all.toString();
    }
}
