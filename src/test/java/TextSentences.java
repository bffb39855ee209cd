import java.util.HashSet;
import java.util.Set;

/** The sentences of "Terms" about the TEXT, and those of the promises 2 to 5: append, clearText, errorPosition, load. */
final class TextSentences {
    /** All beginnings of all commands that are allowed, and the commands themselves, marked by a point behind them. */
    private static final Set<String> BEGINNINGS = beginnings();

    private TextSentences() {
    }

    static void all(Doc doc) {
        doc.section("TEXT");
        buffer(doc);
        log(doc);
        readingOfLogs(doc);
        errors(doc);
        doc.section("Promise 2: append");
        append(doc);
        doc.section("Promise 3: clearText");
        clearText(doc);
        doc.section("Promise 4: errorPosition");
        errorPosition(doc);
        doc.section("Promise 5: load");
        loadMakesNew(doc);
        load(doc);
    }

    private static Set<String> beginnings() {
        Set<String> all = new HashSet<>();
        for (int n = 1; n <= 99; n++) {
            for (int b = 0; b <= 255; b++) {
                String span = String.format("%03d%02d", b, n);
                add(all, "w" + span);
                add(all, "f" + span);
                add(all, "p0" + span);
                add(all, "p1" + span);
                add(all, "p2" + span);
            }
        }
        for (int n = 1; n <= 60; n++) {
            add(all, String.format("i%02d", n));
        }
        for (int n = 0; n <= 599; n++) {
            add(all, String.format("s%03d", n));
        }
        return all;
    }

    private static void add(Set<String> all, String command) {
        for (int i = 1; i <= command.length(); i++) {
            all.add(command.substring(0, i));
        }
        all.add(command + ".");
    }

    private static int errorOf(String text) {
        if (!text.startsWith("D")) {
            return 0;
        }
        int begin = 1;
        for (int i = 1; i < text.length(); i++) {
            if (!BEGINNINGS.contains(text.substring(begin, i + 1))) {
                return i;
            }
            if (BEGINNINGS.contains(text.substring(begin, i + 1) + ".")) {
                begin = i + 1;
            }
        }
        return begin == text.length() ? -1 : text.length();
    }

    private static void errorAt(String text, int want) {
        new Run("").text(text).then("errorPosition() = " + want);
    }

    private static void buffer(Doc doc) {
        doc.says("The object has a text buffer of at most 120 characters.");
        new Run("clearText() = 0; 119 * append(68); append(0) = 120; append(68) ! state; clearText() = 120");
    }

    private static void log(Doc doc) {
        doc.says("A log is the letter D, and then any number of commands: w, three digits for a block (000 to 255) and two for a"
                + " length (01 to 99): write(); f, likewise: free(); i and two digits (01 to 60): run(); p, a digit for a pin"
                + " (0 to 2), and three digits and two as with w: pin(); s, a digit for a setting (0 to 5) and two digits: set().");
        for (String text : new String[] {"D", "Dw00001", "Dw25599", "Df00001", "Df25599", "Di01", "Di60", "Dp000001", "Dp225599",
                "Ds000", "Ds599", "Dw00001f00001i01p000001s000", "D" + "s000".repeat(29) + "i01", "D" + "i01".repeat(39)}) {
            errorAt(text, -1);
        }
        for (String text : new String[] {"", "d", "w00001", "Dx", "Dw00000", "Dw25600", "Df00000", "Df25601", "Di00", "Di61",
                "Dp300001", "Dp000000", "Dp025601", "Ds600", "DD", "Dw0001", "Dw000001", "Di1", "Ds00"}) {
            errorAt(text, errorOf(text));
            Check.same(text + " is no log", Boolean.toString(errorOf(text) >= 0), "true");
        }
        same("Dw00901", "write(9, 1)", 0);
        same("Dw15799", "write(157, 99)", 0);
        same("Dw00009f00109", "write(0, 9); free(1, 9)", 0);
        same("Df00401w00009f00401", "free(4, 1); write(0, 9); free(4, 1)", 0);
        same("Dw00064f00064i01", "write(0, 64); free(0, 64); run(1)", 0);
        same("Dw00064f00064i60", "write(0, 64); free(0, 64); run(60)", 0);
        same("Dp015799p110201p225501", "pin(0, 157, 99); pin(1, 102, 1); pin(2, 255, 1)", 0);
        same("Ds004s120s240s350s409s502", "set(0, 4); set(1, 20); set(2, 40); set(3, 50); set(4, 9); set(5, 2)", 0);
        same("Ds000s100s200s300s400s500", "set(0, 0); set(1, 0); set(2, 0); set(3, 0); set(4, 0); set(5, 0)", 0);
        same("D" + "s000".repeat(29) + "i01", "set(0, 0); run(1)", 0);
        same("D" + "i60".repeat(39), "39 * run(60)", 0);
    }

    /** The text is loaded into an object that has been used; then there is what there is behind the calls. */
    private static void same(String text, String calls, int leftOut) {
        Run loaded = new Run("write(0, 99); free(5, 50); pin(0, 9, 9); run(5); save(0)").text(text).then("load() = " + leftOut);
        Check.same("what there is behind load() of " + text, loaded.state(), new Run(calls).state());
    }

    private static void readingOfLogs(Doc doc) {
        doc.says("Commands that would throw an exception are left out.");
        same("Dw25502", "", 1);
        same("Dw25501w25402", "write(255, 1); write(254, 2)", 0);
        same("Dw15899w15799", "write(157, 99)", 1);
        same("Dw00009f25502f00402", "write(0, 9); free(4, 2)", 1);
        same("Dp025502p125501", "pin(1, 255, 1)", 1);
        same("Ds005s121s241s351s410s503", "", 6);
        same("Ds004s199i02s299s120", "set(0, 4); run(2); set(1, 20)", 2);
        doc.says("There are no blanks.");
        errorAt(" D", 0);
        errorAt("D ", 1);
        errorAt("Dw ", 2);
        errorAt("Dw0 001", 3);
        errorAt("Dw00001 ", 7);
        errorAt("Dw00001 i01", 7);
        errorAt("Di 1", 2);
        errorAt("Ds0 1", 3);
        doc.says("The text is read from left to right.");
        same("Dw00009f00009", "write(0, 9); free(0, 9)", 0);
        same("Df00009w00009", "write(0, 9)", 0);
        same("Ds003s001", "set(0, 1)", 0);
        errorAt("Dw999w999", 2);
        errorAt("Dw00001x999", 7);
    }

    private static void errors(Doc doc) {
        doc.says("The error position is the index of the first character that these rules do not allow at its place (a digit is not"
                + " allowed if no number that is allowed begins with it and those before it); if the text ends too soon, it is the"
                + " length of the text.");
        errorAt("", 0);
        errorAt("0", 0);
        errorAt("Dw", 2);
        errorAt("Dw2", 3);
        errorAt("Dw3", 2);
        errorAt("Dw25", 4);
        errorAt("Dw26", 3);
        errorAt("Dw255", 5);
        errorAt("Dw256", 4);
        errorAt("Dw2550", 6);
        errorAt("Dw25500", 6);
        errorAt("Dw00001w", 8);
        errorAt("Df3", 2);
        errorAt("Df00000", 6);
        errorAt("Di0", 3);
        errorAt("Di00", 3);
        errorAt("Di6", 3);
        errorAt("Di61", 3);
        errorAt("Di7", 2);
        errorAt("Dp", 2);
        errorAt("Dp3", 2);
        errorAt("Dp2", 3);
        errorAt("Dp23", 3);
        errorAt("Dp2256", 5);
        errorAt("Dp200000", 7);
        errorAt("Ds", 2);
        errorAt("Ds6", 2);
        errorAt("Ds5", 3);
        errorAt("Ds59", 4);
        errorAt("Ds5999", 5);
        errorAt("D" + "s000".repeat(29) + "i0", 119);
        errorAt("D" + "s000".repeat(29) + "i00", 119);
        errorAt("D" + "s000".repeat(29) + "w00", 120);
        // Each character at each place of each kind of command, and each number.
        for (String log : new String[] {"Dw25599", "Df19909", "Di60", "Di01", "Dp225510", "Ds599", "Dw00001i05"}) {
            for (int i = 0; i <= log.length(); i++) {
                for (char c = 0; c <= 255; c++) {
                    String text = log.substring(0, i) + c;
                    errorAt(text, errorOf(text));
                    if (i < log.length() && (c >= '/' && c <= ':' || c == ' ')) {
                        errorAt(text + log.substring(i + 1), errorOf(text + log.substring(i + 1)));
                    }
                }
            }
        }
        for (int n = 0; n <= 999; n++) {
            errorAt(String.format("Dw%03d01", n), errorOf(String.format("Dw%03d01", n)));
            errorAt(String.format("Df%03d99", n), errorOf(String.format("Df%03d99", n)));
            errorAt(String.format("Dp1%03d50", n), errorOf(String.format("Dp1%03d50", n)));
            errorAt(String.format("Ds%03d", n), errorOf(String.format("Ds%03d", n)));
            errorAt(String.format("Dw255%02dw", n % 100), errorOf(String.format("Dw255%02dw", n % 100)));
            errorAt(String.format("Di%02df", n % 100), errorOf(String.format("Di%02df", n % 100)));
        }
    }

    private static void append(Doc doc) {
        doc.says("Appends a character to the text buffer.");
        new Run("errorPosition() = 0; append(68); errorPosition() = -1; append(105); errorPosition() = 2; append(48); append(55);"
                + "errorPosition() = -1; append(0); errorPosition() = 4; load() ! state");
        new Run("append(0); append(68); errorPosition() = 0");
        doc.says("- `c`: character code, 0 to 255");
        new Run("append(0) = 1; append(255) = 2; append(32) = 3; append(10) = 4; append(128) = 5; errorPosition() = 0");
        errorAt("D" + (char) 255, 1);
        errorAt("Dw00001" + (char) 0, 7);
        // 304 and 375 are 48 and 119, and 256 more.
        new Run("append(68); append(375) ! argument; append(304) ! argument");
        doc.says("Returns the new length of the text.");
        Run run = new Run("");
        for (int i = 1; i <= 120; i++) {
            run.then("append(" + (i + 100) + ") = " + i);
        }
        run.then("clearText(); append(68) = 1; append(68) = 2");
        doc.says("Throws `IllegalArgumentException` if c is out of range");
        new Run("""
            append(-1) ! argument
            append(256) ! argument
            append(-2147483648) ! argument
            append(2147483647) ! argument
            append(65604) ! argument
            clearText() = 0
            119 * append(68)
            append(256) ! argument
            append(68)
            append(-1) ! argument
            append(256) ! argument
            """);
        doc.says("Throws `IllegalStateException` if the text already has 120 characters");
        new Run("119 * append(68); append(68) = 120; append(68) ! state; append(0) ! state;"
                + "append(255) ! state; clearText() = 120; append(68) = 1");
    }

    private static void clearText(Doc doc) {
        doc.says("Empties the text buffer.");
        new Run("text Di05; errorPosition() = -1; clearText(); errorPosition() = 0; load() ! state");
        new Run("text Dw00009w10009; text Di05; load() = 0; about(0) = 0; about(4) = 5");
        new Run("write(0, 9); run(4); text Di05; clearText(); about(0) = 9; about(4) = 4; undo() = 1");
        doc.says("Returns the previous length of the text.");
        new Run("clearText() = 0; append(0); clearText() = 1; clearText() = 0; text Di05; clearText() = 4; clearText() = 0");
        new Run("119 * append(68); clearText() = 119; 120 * append(68); clearText() = 120; clearText() = 0");
    }

    private static void errorPosition(Doc doc) {
        doc.says("Checks the text.");
        new Run("write(0, 9); text Dw00; errorPosition() = 4; errorPosition() = 4; about(0) = 9; clearText() = 4; undo() = 0");
        new Run("text Dw00009; errorPosition() = -1; about(0) = 0; clearText() = 7");
        doc.says("Returns the error position of the text; NONE if it is a log.");
        new Run("errorPosition() = 0; append(68); errorPosition() = -1; append(68); errorPosition() = 1");
        errorAt("D" + "w00001".repeat(19) + "i01", -1);
        errorAt("D" + "w00001".repeat(19) + "w0000", 120);
        errorAt("D" + "w00001".repeat(19) + "w000x", 119);
    }

    private static void loadMakesNew(Doc doc) {
        // All that can be different is: blocks of each kind, pins, settings, time, counts, states, slots.
        String used = Given.FULL + "free(100, 50); pin(0, 1, 99); pin(1, 120, 9); set(0, 0); set(1, 1); set(2, 9); set(3, 1);"
                + "set(4, 1); set(5, 1); run(5);" + Given.singles(0, 17) + "save(0); run(1); save(1);";
        doc.says("Makes everything as in a new object, and then does the commands of the text.");
        Run run = new Run(used + "about(8) = 3; text D; load() = 0");
        Check.same("what there is behind load() of D", run.state(), new Run("").state());
        run = new Run(used + "text Dw00008f00004i01; load() = 0; load() = 0");
        Check.same("what there is behind load() twice", run.state(), new Run("write(0, 8); free(0, 4); run(1)").state());
        run.then("run(3) = 4; load() = 0; run(3) = 4; about(4) = 4; about(7) = 4");
        doc.says("Behind it no state is remembered, and both save slots are empty.");
        new Run(used + """
            text Dw00008i01; load() = 0
            undo() ! state
            restore(0) ! state
            restore(1) ! state
            set(0, 4) = 2; undo() = 0; setting(0) = 2
            undo() ! state
            save(1) = 1; restore(1) = 1
            restore(0) ! state
            16 * run(1); undo() = 13
            """);
        doc.says("Keeps the text.");
        new Run("text Dw00009; load() = 0; errorPosition() = -1; clearText() = 7");
        new Run("text Dw00009; load() = 0; append(105) = 8; append(48); append(52); load() = 0; about(4) = 4; about(0) = 9");
    }

    private static void load(Doc doc) {
        doc.says("Returns the number of commands that are left out.");
        new Run("text D; load() = 0; text Dw25502; load() = 1; text Dw25502f25502p025502s005; load() = 4; load() = 4");
        new Run("text Dw20099w19858f25099f00001p025502s005s499s503s121s241s351i02s220; load() = 9");
        new Run("").text("D" + "s099".repeat(29)).then("load() = 29; setting(0) = 2");
        doc.says("Throws `IllegalStateException` if the text is not a log");
        String used = "write(0, 99); free(5, 50); pin(0, 9, 9); run(5); save(0); run(1);";
        new Run(used + "load() ! state");
        for (String text : new String[] {"d", "Dw", "Dw0000", "Dw00000", "Dw00009 ", "Di61", "Di05i", "i05", "Dw00009D"}) {
            new Run(used).text(text).then("load() ! state; clearText() = " + text.length());
        }
        new Run(used).text("D" + "s000".repeat(29) + "w00").then("load() ! state; undo() = 4; restore(0) = 5");
    }
}
