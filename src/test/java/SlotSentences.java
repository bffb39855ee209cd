/** The sentences of the promises 27 and 28: save, restore. */
final class SlotSentences {

    /** A state with blocks of each kind, and all numbers and settings another than at first. */
    private static final String USED = Given.FULL + Given.singles(0, 17) + """
            free(100, 50); pin(0, 1, 99); pin(1, 120, 9); set(0, 1); set(1, 1); set(2, 9); set(3, 1); set(4, 1); set(5, 1); run(3)
            """;
    private static final String CHANGES = """
            write(20, 5); free(200, 30); pin(0, 1, 1); unpin(0); pin(1, 3, 3); pin(2, 9, 9)
            set(0, 0); set(1, 0); set(2, 40); set(3, 0); set(4, 0); set(5, 2); run(7); flush()
            """;

    private SlotSentences() {
    }

    static void all(Doc doc) {
        doc.section("Promise 27: save");
        save(doc);
        doc.section("Promise 28: restore");
        restore(doc);
    }

    private static void save(Doc doc) {
        doc.says("Stores the present state in a save slot.");
        Run run = new Run(USED);
        String before = run.state();
        run.then("save(0) = 3");
        Check.same("the state behind save()", run.state(), before);
        run.then("undo() = 13").then("restore(0) = 3");
        Check.same("the state of save(), for undo() leaves the slot alone", run.state(), before);
        run = new Run(USED + "save(0);" + CHANGES + "save(0);" + CHANGES);
        before = new Run(USED + CHANGES).state();
        run.then("restore(0)");
        Check.same("the state of the later save()", run.state(), before);
        doc.says("- `slot`: 0 or 1");
        new Run("run(1); save(0) = 1; run(1); save(1) = 2; run(1); restore(0) = 1; restore(1) = 2; save(0) = 2; restore(0) = 2");
        doc.says("Returns the time.");
        new Run("save(0) = 0; run(60); save(0) = 60; run(1); save(1) = 61; save(0) = 61; flush(); save(1) = 61");
        doc.says("Throws `IndexOutOfBoundsException` if there is no such save slot");
        new Run("run(1); save(0); run(1); save(-1) ! index; save(2) ! index; save(-2147483648) ! index; save(2147483647) ! index;"
                + "restore(0) = 1; restore(1) ! state");
    }

    private static void restore(Doc doc) {
        doc.says("Replaces the state by the one in a save slot, and forgets all remembered states.");
        for (int slot = 0; slot <= 1; slot++) {
            Run run = new Run(USED + "save(" + slot + ");" + CHANGES + "restore(" + slot + ") = 3");
            Check.same("the state behind restore()", run.state(), new Run(USED).state());
            run.then("undo() ! state").then("run(1); undo() = 0; undo() ! state");
        }
        new Run("save(0); 20 * run(1); restore(0) = 0; undo() ! state; 2 * run(1); undo() = 1; about(4) = 1; undo() = 0; about(4) = 0;"
                + "undo() ! state; 15 * run(1); undo() = 13");
        new Run("save(1); restore(1); undo() ! state; restore(1) = 0");
        // The text and the other slot stay.
        new Run("save(0); run(1); save(1); text Di05; restore(0) = 0; errorPosition() = -1; restore(1) = 1; clearText() = 4");
        doc.says("The save slot keeps it.");
        Run run = new Run(USED + "save(1);" + CHANGES + "restore(1);" + CHANGES + "restore(1) = 3");
        Check.same("the state behind the second restore()", run.state(), new Run(USED).state());
        new Run("run(3); save(0); 3 * restore(0) = 3; run(9); 3 * restore(0) = 3; about(4) = 3");
        doc.says("- `slot`: 0 or 1");
        new Run("run(1); save(0); run(1); save(1); restore(0) = 1; about(4) = 1; restore(1) = 2; about(4) = 2");
        doc.says("Returns the time then.");
        new Run("save(1); run(60); save(0); run(1); restore(0) = 60; run(5); restore(0) = 60; restore(1) = 0");
        doc.says("Throws `IndexOutOfBoundsException` if there is no such save slot");
        new Run("save(0); save(1); run(1); restore(-1) ! index; restore(2) ! index; restore(-2147483648) ! index;"
                + "restore(2147483647) ! index");
        doc.says("Throws `IllegalStateException` if nothing has been saved in it since the last load");
        new Run("run(1); restore(0) ! state; restore(1) ! state; save(0) = 1; restore(1) ! state; restore(0) = 1; restore(1) ! state");
        new Run("save(0); save(1); text D; load(); restore(0) ! state; restore(1) ! state; save(1) = 0; restore(0) ! state;"
                + "restore(1) = 0");
        // A load that throws is none.
        new Run("run(2); save(0); text Dx; load() ! state; restore(0) = 2; text Di05; load(); restore(0) ! state");
    }
}
