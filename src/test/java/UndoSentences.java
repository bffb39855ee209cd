/** The sentences of "Terms" about ACTIONS AND UNDO and EXCEPTIONS, and those of the promise 18: undo. */
final class UndoSentences {

    /** An object on which much has been done: 13 actions, of which the last is remembered together with all others. */
    private static final String USED = Given.FULL + """
            free(10, 20); free(40, 3); run(4); pin(0, 20, 9); pin(2, 250, 6); set(2, 9); set(5, 1); free(100, 99)
            save(1); run(1); write(150, 3); text Dw00009i05
            """;

    private UndoSentences() {
    }

    static void all(Doc doc) {
        doc.section("ACTIONS AND UNDO");
        state(doc);
        actions(doc);
        remembered(doc);
        doc.section("EXCEPTIONS");
        exceptions(doc);
        firstOfSeveral(doc);
        nothingChanges(doc);
        constants(doc);
        sectionsOfTheFace(doc);
        doc.section("Promise 18: undo");
        undo(doc);
    }

    private static void state(Doc doc) {
        doc.says("The methods in the section \"actions\" change the state, which consists of everything but the text and the save slots.");
        // Undo leaves the text and the slots alone: neither what was there before nor what came later is taken back.
        new Run("text Di07; run(1); undo() = 0; errorPosition() = -1; clearText() = 4");
        new Run("run(1); text Di07; undo() = 0; errorPosition() = -1; clearText() = 4");
        new Run("text Di07; run(1); clearText(); undo() = 0; clearText() = 0");
        new Run("run(3); save(0) = 3; undo() = 0; about(4) = 0; restore(0) = 3; about(4) = 3");
        new Run("run(3); save(0) = 3; run(1); save(0) = 4; undo() = 1; restore(0) = 4");
        // All else is taken back: each number of the state is another one ahead of undo.
        Run used = new Run(USED);
        String before = used.state();
        used.then("""
            write(0, 99)
            free(0, 99)
            free(99, 99)
            pin(1, 3, 4)
            unpin(2)
            run(60)
            flush()
            set(0, 0)
            set(1, 9)
            set(2, 0)
            set(3, 1)
            set(4, 1)
            set(5, 2)
            """);
        used.then("13 * undo()");
        Check.same("the state behind 13 actions and 13 times undo()", used.state(), before);
        new Run(Given.FULL + Given.singles(0, 16) + "free(40, 1); about(8) = 1; undo() = 13; about(8) = 0; about(10) = 0;"
                + "block(0, 2) = 0");
    }

    private static void actions(Doc doc) {
        doc.says("Each call of one of them that does not throw an exception is an action, also if nothing becomes different (undo is"
                + " none).");
        new Run("write(0, 1); undo() = 0; free(0, 1); undo() = 0; pin(0, 0, 1); undo() = 0; run(1); undo() = 0; flush(); undo() = 0;"
                + "set(0, 1); undo() = 0; undo() ! state");
        new Run("pin(0, 0, 1); unpin(0); undo() = 1; pinned(0, 0) = 0; undo() = 0; undo() ! state");
        // Nothing becomes different.
        new Run("""
            write(0, 9); write(0, 9) = 0; free(50, 9) = 0; pin(0, 0, 9); pin(0, 0, 9) = 9; flush() = 0; set(0, 2) = 2; undo() = 6
            undo() = 5; undo() = 4; undo() = 3; undo() = 2; undo() = 1; undo() = 0
            """);
        // Calls that throw are no actions.
        new Run("run(1); write(255, 2) ! state; free(0, 0) ! argument; pin(3, 0, 1) ! index; unpin(0) ! state;"
                + "run(61) ! argument; set(0, 5) ! argument; undo() = 0; undo() ! state; about(4) = 0");
        // Undo is none: it can't be taken back.
        new Run("run(1); run(1); run(1); undo() = 2; undo() = 1; undo() = 0; about(4) = 0; undo() ! state; about(4) = 0");
    }

    private static void remembered(Doc doc) {
        doc.says("Before each action, the state is remembered.");
        String[] actions = {"write(12, 5)", "free(70, 30)", "pin(1, 5, 50)", "unpin(0)", "run(20)", "pin(1, 255, 1)", "flush()",
            "set(5, 2)", "set(0, 0)", "write(0, 1)", "free(0, 1)"};
        for (String action : actions) {
            Run run = new Run(USED);
            String before = run.state();
            run.then(action + "; undo() = 13");
            Check.same("the state behind " + action + " and undo()", run.state(), before);
        }
        doc.says("At most 14 states are remembered; when one more is remembered, the oldest one is forgotten.");
        new Run("13 * run(1); undo() = 12; about(4) = 12");
        new Run("14 * run(1); undo() = 13; 13 * undo(); about(4) = 0; undo() ! state");
        new Run("15 * run(1); undo() = 13; about(4) = 14; 13 * undo(); about(4) = 1; undo() ! state; about(4) = 1");
        new Run("16 * run(1); undo() = 13; 13 * undo(); about(4) = 2; undo() ! state");
        new Run("28 * run(1); 14 * undo(); about(4) = 14; undo() ! state");
        new Run("29 * run(1); 14 * undo(); about(4) = 15; undo() ! state");
        new Run("100 * run(1); 14 * undo(); about(4) = 86; undo() ! state");
        // Some are taken back in between, of a full list and of one that is not full.
        new Run("10 * run(1); undo() = 9; undo() = 8; run(5); undo() = 8; about(4) = 8; 8 * undo(); about(4) = 0; undo() ! state");
        new Run("20 * run(1); 5 * undo(); about(4) = 15; 7 * run(2); undo() = 13; about(4) = 27; 13 * undo(); about(4) = 8;"
                + "undo() ! state");
        new Run("20 * run(1); 14 * undo(); about(4) = 6; 15 * run(2); undo() = 13; 13 * undo(); about(4) = 8; undo() ! state");
        doc.says("load and restore are not actions.");
        new Run("run(1); text Di05; load() = 0; undo() ! state; about(4) = 5");
        new Run("run(1); save(0); run(1); restore(0) = 1; undo() ! state; about(4) = 1; run(1); restore(0) = 1; undo() ! state");
        new Run("save(0); text Di05; load(); run(1); save(1); restore(1); run(1); undo() = 0; about(4) = 6");
    }

    private static void exceptions(Doc doc) {
        doc.says("IndexOutOfBoundsException means that a block, a pin or a range does not exist, or that a save slot is not 0 or 1.");
        for (String bad : new String[] {"-1", "256", "-2147483648", "2147483647"}) {
            new Run("block(" + bad + ", 0) ! index; write(" + bad + ", 1) ! index; free(" + bad + ", 1) ! index;"
                    + "pin(0, " + bad + ", 1) ! index; goneIn(" + bad + ") ! index; ifWritten(" + bad + ", 1) ! index");
        }
        for (String bad : new String[] {"-1", "3", "-2147483648", "2147483647"}) {
            new Run("pinned(" + bad + ", 0) ! index; pin(" + bad + ", 0, 1) ! index; unpin(" + bad + ") ! index");
        }
        new Run("write(0, 9); free(0, 9); range(0, 0) = 0; range(1, 0) ! index; range(-1, 0) ! index");
        for (String bad : new String[] {"-1", "2", "-2147483648", "2147483647"}) {
            new Run("save(0); save(1); save(" + bad + ") ! index; restore(" + bad + ") ! index");
        }
        doc.says("IllegalArgumentException means that another argument is out of its range.");
        for (String n : new String[] {"0", "-1", "100", "-2147483648", "2147483647"}) {
            new Run("write(0, " + n + ") ! argument; free(0, " + n + ") ! argument; pin(0, 0, " + n + ") ! argument;"
                    + "ifWritten(0, " + n + ") ! argument");
        }
        for (String n : new String[] {"0", "-1", "61", "-2147483648", "2147483647"}) {
            new Run("run(" + n + ") ! argument; bestGranule(" + n + ") ! argument; simulate(0, " + n + ") ! argument");
        }
        new Run("append(256) ! argument; about(11) ! argument; block(0, 4) ! argument; pinned(0, 2) ! argument;"
                + "setting(6) ! argument; set(6, 0) ! argument; set(0, 5) ! argument; next(3) ! argument;"
                + "coming(101, 0) ! argument; coming(1, 4) ! argument; runScript(4, 0) ! argument");
        doc.says("IllegalStateException means what the method says.");
        new Run("120 * append(0); append(0) ! state; load() ! state; write(255, 2) ! state; free(255, 2) ! state;"
                + "pin(0, 255, 2) ! state; ifWritten(255, 2) ! state; unpin(0) ! state; undo() ! state;"
                + "restore(0) ! state");
    }

    private static void firstOfSeveral(Doc doc) {
        doc.says("If several exceptions apply to a call, the one that its description names first is thrown.");
        new Run("120 * append(0); append(256) ! argument; append(-1) ! argument");
        new Run("block(256, 4) ! index; block(-1, -1) ! index; range(0, 6) ! index; range(-1, -1) ! index;"
                + "pinned(3, 2) ! index; pinned(-1, -1) ! index");
        for (String name : new String[] {"write(", "free(", "ifWritten(", "pin(0, "}) {
            new Run(name + "256, 0) ! index;" + name + "-1, 100) ! index;" + name + "256, 1) ! index;"
                    + name + "2147483647, 99) ! index;"
                    + name + "255, 0) ! argument;" + name + "255, 100) ! argument;" + name + "158, 100) ! argument;"
                    + name + "255, 2147483647) ! argument;" + name + "0, -2147483648) ! argument;" + name + "255, 99) ! state");
        }
        new Run("pin(3, 256, 0) ! index; pin(3, 0, 0) ! index; pin(-1, 255, 2) ! index; pin(3, 255, 99) ! index");
        new Run("unpin(3) ! index; unpin(-1) ! index; unpin(0) ! state; restore(2) ! index; restore(-1) ! index;"
                + "restore(1) ! state");
    }

    private static void nothingChanges(Doc doc) {
        doc.says("A call that throws an exception changes nothing.");
        // Run compares all that there is behind each call that must throw.
        new Run(USED + "append(256) ! argument; about(11) ! argument; block(256, 0) ! index; block(0, 4) ! argument;"
                + "range(9, 0) ! index; range(0, 6) ! argument; pinned(3, 0) ! index; pinned(0, 2) ! argument;"
                + "setting(6) ! argument; write(256, 9) ! index; write(9, 0) ! argument; write(200, 99) ! state;"
                + "free(256, 9) ! index; free(9, 0) ! argument; free(200, 99) ! state; pin(3, 0, 9) ! index;"
                + "pin(0, 256, 9) ! index; pin(0, 0, 100) ! argument; pin(0, 200, 99) ! state; unpin(3) ! index;"
                + "unpin(1) ! state; run(0) ! argument; run(61) ! argument; set(6, 0) ! argument; set(0, 5) ! argument;"
                + "set(3, -1) ! argument");
        new Run(USED + "next(3) ! argument; goneIn(256) ! index; coming(0, 0) ! argument; coming(9, 4) ! argument;"
                + "bestGranule(0) ! argument; ifWritten(256, 1) ! index; ifWritten(0, 0) ! argument; ifWritten(255, 9) ! state;"
                + "runScript(0, 0) ! argument; runScript(1, -1) ! argument; runScript(1, 1000000) ! argument;"
                + "simulate(0, 0) ! argument; save(2) ! index; restore(2) ! index; restore(0) ! state");
        new Run(USED + "clearText(); load() ! state; text Dw00009w99; load() ! state; 110 * append(0); append(68) ! state;"
                + "load() ! state");
        new Run(USED + "13 * undo(); undo() ! state; undo() ! state");
    }

    private static void constants(Doc doc) {
        doc.says("The constants: `NONE = -1`: There is no such result.");
        Check.due("NONE", IdleDiscards.NONE, -1);
        new Run("block(0, 2) = -1; pinned(0, 0) = -1; next(0) = -1; text D; errorPosition() = -1; write(0, 1); goneIn(0) = -1;"
                + "runScript(1, 500000) = -1");
    }

    /** Calls that must leave everything as it is. */
    private static void leaveAll(String... calls) {
        for (String call : calls) {
            Run run = new Run(USED);
            String before = run.everything();
            run.then(call);
            Check.same("what there is behind " + call, run.everything(), before);
        }
    }

    private static void sectionsOfTheFace(Doc doc) {
        doc.says("Ahead of the calls `append`, `clearText`, `errorPosition`, `load` the interface says: ---- text.");
        Run run = new Run(USED);
        String state = run.state();
        run.then("append(68); errorPosition() = 10; clearText() = 11; errorPosition() = 0; append(68); errorPosition() = -1");
        Check.same("the state behind calls about the text", run.state(), state);
        run.then("undo() = 12");
        leaveAll("errorPosition() = -1");
        doc.says("Ahead of the calls `about`, `block`, `range`, `pinned`, `setting` the interface says: ---- what there is.");
        leaveAll("about(0)", "about(10)", "block(0, 0)", "block(255, 2)", "range(0, 0)", "range(1, 5)", "pinned(0, 0)", "pinned(1, 1)",
                "setting(0)");
        doc.says("Ahead of the calls `write`, `free`, `pin`, `unpin`, `run`, `flush`, `set`, `undo` the interface says: ---- actions.");
        new Run("write(0, 9); free(0, 4); pin(1, 0, 4); unpin(1); set(3, 0); run(3); flush(); undo() = 6; about(4) = 3");
        doc.says("Ahead of the calls `next`, `goneIn`, `coming`, `bestGranule`, `ifWritten`, `stuck` the interface says: ---- what would"
                + " be; these and all following methods up to the save slots change nothing.");
        leaveAll("next(0)", "next(2)", "goneIn(12)", "goneIn(100)", "goneIn(255)", "coming(1, 0)", "coming(100, 3)", "bestGranule(1)",
                "bestGranule(60)", "ifWritten(0, 99)", "ifWritten(120, 1)", "stuck()");
        doc.says("Ahead of the calls `runScript`, `simulate` the interface says: ---- scripts, simulations.");
        leaveAll("runScript(3, 100099200050300060)", "runScript(3, 400000500000400400)", "runScript(1, 0)", "simulate(1, 60)",
                "simulate(-1, 1)", "runScript(2, 225501999999)");
        doc.says("Ahead of the calls `save`, `restore` the interface says: ---- save slots.");
        new Run(USED + "save(0) = 5; undo() = 12; restore(0) = 5; restore(1) = 4; undo() ! state");
    }

    private static void undo(Doc doc) {
        doc.says("Takes back the last action that is remembered.");
        new Run("write(0, 9); run(5); pin(0, 0, 9); undo(); about(9) = 0; about(4) = 5; undo(); about(4) = 0; about(0) = 9; undo();"
                + "about(0) = 0");
        new Run("set(0, 3); undo(); set(0, 4); setting(0) = 4; undo() = 0; setting(0) = 2");
        new Run("write(0, 64); free(0, 64); run(5); about(7) = 48; undo(); about(7) = 0; about(6) = 0; about(5) = 0; held: 0-63;"
                + "run(4) = 24; undo(); run(4) = 24");
        doc.says("Returns how many states are still remembered.");
        new Run("3 * run(1); undo() = 2; undo() = 1; undo() = 0");
        new Run("20 * run(1); undo() = 13; undo() = 12; run(1); undo() = 12");
        doc.says("Throws `IllegalStateException` if none is remembered");
        new Run("undo() ! state; undo() ! state");
        new Run("run(1); undo() = 0; undo() ! state; save(0); about(0); stuck(); text D; undo() ! state");
        new Run("14 * run(1); 14 * undo(); undo() ! state; run(1); undo() = 0; undo() ! state");
    }
}
